/-! where the greedy fail; by program (wip/tools/mk89.py) -/
theorem w_bcx {cs : List ab_C} {x : Int32} : Ev ab_Z0 1 213 [.int x] cs (some (.int ((((((((x - (((x.toUInt32 >>> ((nI 1).toUInt32 &&& Int32.toUInt32 31)).toInt32) &&& (nI 1431655765))) &&& (nI 858993459)) + ((((x - (((x.toUInt32 >>> ((nI 1).toUInt32 &&& Int32.toUInt32 31)).toInt32) &&& (nI 1431655765))).toUInt32 >>> ((nI 2).toUInt32 &&& Int32.toUInt32 31)).toInt32) &&& (nI 858993459))) + (((((x - (((x.toUInt32 >>> ((nI 1).toUInt32 &&& Int32.toUInt32 31)).toInt32) &&& (nI 1431655765))) &&& (nI 858993459)) + ((((x - (((x.toUInt32 >>> ((nI 1).toUInt32 &&& Int32.toUInt32 31)).toInt32) &&& (nI 1431655765))).toUInt32 >>> ((nI 2).toUInt32 &&& Int32.toUInt32 31)).toInt32) &&& (nI 858993459))).toUInt32 >>> ((nI 4).toUInt32 &&& Int32.toUInt32 31)).toInt32)) &&& (nI 252645135)) + (((((((x - (((x.toUInt32 >>> ((nI 1).toUInt32 &&& Int32.toUInt32 31)).toInt32) &&& (nI 1431655765))) &&& (nI 858993459)) + ((((x - (((x.toUInt32 >>> ((nI 1).toUInt32 &&& Int32.toUInt32 31)).toInt32) &&& (nI 1431655765))).toUInt32 >>> ((nI 2).toUInt32 &&& Int32.toUInt32 31)).toInt32) &&& (nI 858993459))) + (((((x - (((x.toUInt32 >>> ((nI 1).toUInt32 &&& Int32.toUInt32 31)).toInt32) &&& (nI 1431655765))) &&& (nI 858993459)) + ((((x - (((x.toUInt32 >>> ((nI 1).toUInt32 &&& Int32.toUInt32 31)).toInt32) &&& (nI 1431655765))).toUInt32 >>> ((nI 2).toUInt32 &&& Int32.toUInt32 31)).toInt32) &&& (nI 858993459))).toUInt32 >>> ((nI 4).toUInt32 &&& Int32.toUInt32 31)).toInt32)) &&& (nI 252645135)).toUInt32 >>> ((nI 8).toUInt32 &&& Int32.toUInt32 31)).toInt32)) + ((((((((x - (((x.toUInt32 >>> ((nI 1).toUInt32 &&& Int32.toUInt32 31)).toInt32) &&& (nI 1431655765))) &&& (nI 858993459)) + ((((x - (((x.toUInt32 >>> ((nI 1).toUInt32 &&& Int32.toUInt32 31)).toInt32) &&& (nI 1431655765))).toUInt32 >>> ((nI 2).toUInt32 &&& Int32.toUInt32 31)).toInt32) &&& (nI 858993459))) + (((((x - (((x.toUInt32 >>> ((nI 1).toUInt32 &&& Int32.toUInt32 31)).toInt32) &&& (nI 1431655765))) &&& (nI 858993459)) + ((((x - (((x.toUInt32 >>> ((nI 1).toUInt32 &&& Int32.toUInt32 31)).toInt32) &&& (nI 1431655765))).toUInt32 >>> ((nI 2).toUInt32 &&& Int32.toUInt32 31)).toInt32) &&& (nI 858993459))).toUInt32 >>> ((nI 4).toUInt32 &&& Int32.toUInt32 31)).toInt32)) &&& (nI 252645135)) + (((((((x - (((x.toUInt32 >>> ((nI 1).toUInt32 &&& Int32.toUInt32 31)).toInt32) &&& (nI 1431655765))) &&& (nI 858993459)) + ((((x - (((x.toUInt32 >>> ((nI 1).toUInt32 &&& Int32.toUInt32 31)).toInt32) &&& (nI 1431655765))).toUInt32 >>> ((nI 2).toUInt32 &&& Int32.toUInt32 31)).toInt32) &&& (nI 858993459))) + (((((x - (((x.toUInt32 >>> ((nI 1).toUInt32 &&& Int32.toUInt32 31)).toInt32) &&& (nI 1431655765))) &&& (nI 858993459)) + ((((x - (((x.toUInt32 >>> ((nI 1).toUInt32 &&& Int32.toUInt32 31)).toInt32) &&& (nI 1431655765))).toUInt32 >>> ((nI 2).toUInt32 &&& Int32.toUInt32 31)).toInt32) &&& (nI 858993459))).toUInt32 >>> ((nI 4).toUInt32 &&& Int32.toUInt32 31)).toInt32)) &&& (nI 252645135)).toUInt32 >>> ((nI 8).toUInt32 &&& Int32.toUInt32 31)).toInt32)).toUInt32 >>> ((nI 16).toUInt32 &&& Int32.toUInt32 31)).toInt32)) &&& (nI 63))), cs) := by
  refine Ef.in (md := mJ6_bitCount_0f7a4) (L := [some (.int x)]) rfl (Nat.le_of_ble_eq_true rfl) rfl ?_
  refine E_iload_n rfl rfl ?_
  refine E_iload_n rfl rfl ?_
  refine E_iconst (x := nI 1) rfl (by decide) ?_
  refine E_iushr (z := (x.toUInt32 >>> ((nI 1).toUInt32 &&& Int32.toUInt32 31)).toInt32) rfl rfl ?_
  refine E_ldc_w (x := nI 1431655765) rfl (by decide) ?_
  refine E_iand (z := ((x.toUInt32 >>> ((nI 1).toUInt32 &&& Int32.toUInt32 31)).toInt32) &&& (nI 1431655765)) rfl rfl ?_
  refine E_isub (z := x - (((x.toUInt32 >>> ((nI 1).toUInt32 &&& Int32.toUInt32 31)).toInt32) &&& (nI 1431655765))) rfl rfl ?_
  refine E_istore_n (L2 := [some (.int (x - (((x.toUInt32 >>> ((nI 1).toUInt32 &&& Int32.toUInt32 31)).toInt32) &&& (nI 1431655765))))]) rfl rfl ?_
  refine E_iload_n rfl rfl ?_
  refine E_ldc_w (x := nI 858993459) rfl (by decide) ?_
  refine E_iand (z := (x - (((x.toUInt32 >>> ((nI 1).toUInt32 &&& Int32.toUInt32 31)).toInt32) &&& (nI 1431655765))) &&& (nI 858993459)) rfl rfl ?_
  refine E_iload_n rfl rfl ?_
  refine E_iconst (x := nI 2) rfl (by decide) ?_
  refine E_iushr (z := ((x - (((x.toUInt32 >>> ((nI 1).toUInt32 &&& Int32.toUInt32 31)).toInt32) &&& (nI 1431655765))).toUInt32 >>> ((nI 2).toUInt32 &&& Int32.toUInt32 31)).toInt32) rfl rfl ?_
  refine E_ldc_w (x := nI 858993459) rfl (by decide) ?_
  refine E_iand (z := (((x - (((x.toUInt32 >>> ((nI 1).toUInt32 &&& Int32.toUInt32 31)).toInt32) &&& (nI 1431655765))).toUInt32 >>> ((nI 2).toUInt32 &&& Int32.toUInt32 31)).toInt32) &&& (nI 858993459)) rfl rfl ?_
  refine E_iadd (z := ((x - (((x.toUInt32 >>> ((nI 1).toUInt32 &&& Int32.toUInt32 31)).toInt32) &&& (nI 1431655765))) &&& (nI 858993459)) + ((((x - (((x.toUInt32 >>> ((nI 1).toUInt32 &&& Int32.toUInt32 31)).toInt32) &&& (nI 1431655765))).toUInt32 >>> ((nI 2).toUInt32 &&& Int32.toUInt32 31)).toInt32) &&& (nI 858993459))) rfl rfl ?_
  refine E_istore_n (L2 := [some (.int (((x - (((x.toUInt32 >>> ((nI 1).toUInt32 &&& Int32.toUInt32 31)).toInt32) &&& (nI 1431655765))) &&& (nI 858993459)) + ((((x - (((x.toUInt32 >>> ((nI 1).toUInt32 &&& Int32.toUInt32 31)).toInt32) &&& (nI 1431655765))).toUInt32 >>> ((nI 2).toUInt32 &&& Int32.toUInt32 31)).toInt32) &&& (nI 858993459))))]) rfl rfl ?_
  refine E_iload_n rfl rfl ?_
  refine E_iload_n rfl rfl ?_
  refine E_iconst (x := nI 4) rfl (by decide) ?_
  refine E_iushr (z := ((((x - (((x.toUInt32 >>> ((nI 1).toUInt32 &&& Int32.toUInt32 31)).toInt32) &&& (nI 1431655765))) &&& (nI 858993459)) + ((((x - (((x.toUInt32 >>> ((nI 1).toUInt32 &&& Int32.toUInt32 31)).toInt32) &&& (nI 1431655765))).toUInt32 >>> ((nI 2).toUInt32 &&& Int32.toUInt32 31)).toInt32) &&& (nI 858993459))).toUInt32 >>> ((nI 4).toUInt32 &&& Int32.toUInt32 31)).toInt32) rfl rfl ?_
  refine E_iadd (z := (((x - (((x.toUInt32 >>> ((nI 1).toUInt32 &&& Int32.toUInt32 31)).toInt32) &&& (nI 1431655765))) &&& (nI 858993459)) + ((((x - (((x.toUInt32 >>> ((nI 1).toUInt32 &&& Int32.toUInt32 31)).toInt32) &&& (nI 1431655765))).toUInt32 >>> ((nI 2).toUInt32 &&& Int32.toUInt32 31)).toInt32) &&& (nI 858993459))) + (((((x - (((x.toUInt32 >>> ((nI 1).toUInt32 &&& Int32.toUInt32 31)).toInt32) &&& (nI 1431655765))) &&& (nI 858993459)) + ((((x - (((x.toUInt32 >>> ((nI 1).toUInt32 &&& Int32.toUInt32 31)).toInt32) &&& (nI 1431655765))).toUInt32 >>> ((nI 2).toUInt32 &&& Int32.toUInt32 31)).toInt32) &&& (nI 858993459))).toUInt32 >>> ((nI 4).toUInt32 &&& Int32.toUInt32 31)).toInt32)) rfl rfl ?_
  refine E_ldc_w (x := nI 252645135) rfl (by decide) ?_
  refine E_iand (z := ((((x - (((x.toUInt32 >>> ((nI 1).toUInt32 &&& Int32.toUInt32 31)).toInt32) &&& (nI 1431655765))) &&& (nI 858993459)) + ((((x - (((x.toUInt32 >>> ((nI 1).toUInt32 &&& Int32.toUInt32 31)).toInt32) &&& (nI 1431655765))).toUInt32 >>> ((nI 2).toUInt32 &&& Int32.toUInt32 31)).toInt32) &&& (nI 858993459))) + (((((x - (((x.toUInt32 >>> ((nI 1).toUInt32 &&& Int32.toUInt32 31)).toInt32) &&& (nI 1431655765))) &&& (nI 858993459)) + ((((x - (((x.toUInt32 >>> ((nI 1).toUInt32 &&& Int32.toUInt32 31)).toInt32) &&& (nI 1431655765))).toUInt32 >>> ((nI 2).toUInt32 &&& Int32.toUInt32 31)).toInt32) &&& (nI 858993459))).toUInt32 >>> ((nI 4).toUInt32 &&& Int32.toUInt32 31)).toInt32)) &&& (nI 252645135)) rfl rfl ?_
  refine E_istore_n (L2 := [some (.int (((((x - (((x.toUInt32 >>> ((nI 1).toUInt32 &&& Int32.toUInt32 31)).toInt32) &&& (nI 1431655765))) &&& (nI 858993459)) + ((((x - (((x.toUInt32 >>> ((nI 1).toUInt32 &&& Int32.toUInt32 31)).toInt32) &&& (nI 1431655765))).toUInt32 >>> ((nI 2).toUInt32 &&& Int32.toUInt32 31)).toInt32) &&& (nI 858993459))) + (((((x - (((x.toUInt32 >>> ((nI 1).toUInt32 &&& Int32.toUInt32 31)).toInt32) &&& (nI 1431655765))) &&& (nI 858993459)) + ((((x - (((x.toUInt32 >>> ((nI 1).toUInt32 &&& Int32.toUInt32 31)).toInt32) &&& (nI 1431655765))).toUInt32 >>> ((nI 2).toUInt32 &&& Int32.toUInt32 31)).toInt32) &&& (nI 858993459))).toUInt32 >>> ((nI 4).toUInt32 &&& Int32.toUInt32 31)).toInt32)) &&& (nI 252645135)))]) rfl rfl ?_
  refine E_iload_n rfl rfl ?_
  refine E_iload_n rfl rfl ?_
  refine E_bipush (x := nI 8) rfl (by decide) ?_
  refine E_iushr (z := ((((((x - (((x.toUInt32 >>> ((nI 1).toUInt32 &&& Int32.toUInt32 31)).toInt32) &&& (nI 1431655765))) &&& (nI 858993459)) + ((((x - (((x.toUInt32 >>> ((nI 1).toUInt32 &&& Int32.toUInt32 31)).toInt32) &&& (nI 1431655765))).toUInt32 >>> ((nI 2).toUInt32 &&& Int32.toUInt32 31)).toInt32) &&& (nI 858993459))) + (((((x - (((x.toUInt32 >>> ((nI 1).toUInt32 &&& Int32.toUInt32 31)).toInt32) &&& (nI 1431655765))) &&& (nI 858993459)) + ((((x - (((x.toUInt32 >>> ((nI 1).toUInt32 &&& Int32.toUInt32 31)).toInt32) &&& (nI 1431655765))).toUInt32 >>> ((nI 2).toUInt32 &&& Int32.toUInt32 31)).toInt32) &&& (nI 858993459))).toUInt32 >>> ((nI 4).toUInt32 &&& Int32.toUInt32 31)).toInt32)) &&& (nI 252645135)).toUInt32 >>> ((nI 8).toUInt32 &&& Int32.toUInt32 31)).toInt32) rfl rfl ?_
  refine E_iadd (z := (((((x - (((x.toUInt32 >>> ((nI 1).toUInt32 &&& Int32.toUInt32 31)).toInt32) &&& (nI 1431655765))) &&& (nI 858993459)) + ((((x - (((x.toUInt32 >>> ((nI 1).toUInt32 &&& Int32.toUInt32 31)).toInt32) &&& (nI 1431655765))).toUInt32 >>> ((nI 2).toUInt32 &&& Int32.toUInt32 31)).toInt32) &&& (nI 858993459))) + (((((x - (((x.toUInt32 >>> ((nI 1).toUInt32 &&& Int32.toUInt32 31)).toInt32) &&& (nI 1431655765))) &&& (nI 858993459)) + ((((x - (((x.toUInt32 >>> ((nI 1).toUInt32 &&& Int32.toUInt32 31)).toInt32) &&& (nI 1431655765))).toUInt32 >>> ((nI 2).toUInt32 &&& Int32.toUInt32 31)).toInt32) &&& (nI 858993459))).toUInt32 >>> ((nI 4).toUInt32 &&& Int32.toUInt32 31)).toInt32)) &&& (nI 252645135)) + (((((((x - (((x.toUInt32 >>> ((nI 1).toUInt32 &&& Int32.toUInt32 31)).toInt32) &&& (nI 1431655765))) &&& (nI 858993459)) + ((((x - (((x.toUInt32 >>> ((nI 1).toUInt32 &&& Int32.toUInt32 31)).toInt32) &&& (nI 1431655765))).toUInt32 >>> ((nI 2).toUInt32 &&& Int32.toUInt32 31)).toInt32) &&& (nI 858993459))) + (((((x - (((x.toUInt32 >>> ((nI 1).toUInt32 &&& Int32.toUInt32 31)).toInt32) &&& (nI 1431655765))) &&& (nI 858993459)) + ((((x - (((x.toUInt32 >>> ((nI 1).toUInt32 &&& Int32.toUInt32 31)).toInt32) &&& (nI 1431655765))).toUInt32 >>> ((nI 2).toUInt32 &&& Int32.toUInt32 31)).toInt32) &&& (nI 858993459))).toUInt32 >>> ((nI 4).toUInt32 &&& Int32.toUInt32 31)).toInt32)) &&& (nI 252645135)).toUInt32 >>> ((nI 8).toUInt32 &&& Int32.toUInt32 31)).toInt32)) rfl rfl ?_
  refine E_istore_n (L2 := [some (.int ((((((x - (((x.toUInt32 >>> ((nI 1).toUInt32 &&& Int32.toUInt32 31)).toInt32) &&& (nI 1431655765))) &&& (nI 858993459)) + ((((x - (((x.toUInt32 >>> ((nI 1).toUInt32 &&& Int32.toUInt32 31)).toInt32) &&& (nI 1431655765))).toUInt32 >>> ((nI 2).toUInt32 &&& Int32.toUInt32 31)).toInt32) &&& (nI 858993459))) + (((((x - (((x.toUInt32 >>> ((nI 1).toUInt32 &&& Int32.toUInt32 31)).toInt32) &&& (nI 1431655765))) &&& (nI 858993459)) + ((((x - (((x.toUInt32 >>> ((nI 1).toUInt32 &&& Int32.toUInt32 31)).toInt32) &&& (nI 1431655765))).toUInt32 >>> ((nI 2).toUInt32 &&& Int32.toUInt32 31)).toInt32) &&& (nI 858993459))).toUInt32 >>> ((nI 4).toUInt32 &&& Int32.toUInt32 31)).toInt32)) &&& (nI 252645135)) + (((((((x - (((x.toUInt32 >>> ((nI 1).toUInt32 &&& Int32.toUInt32 31)).toInt32) &&& (nI 1431655765))) &&& (nI 858993459)) + ((((x - (((x.toUInt32 >>> ((nI 1).toUInt32 &&& Int32.toUInt32 31)).toInt32) &&& (nI 1431655765))).toUInt32 >>> ((nI 2).toUInt32 &&& Int32.toUInt32 31)).toInt32) &&& (nI 858993459))) + (((((x - (((x.toUInt32 >>> ((nI 1).toUInt32 &&& Int32.toUInt32 31)).toInt32) &&& (nI 1431655765))) &&& (nI 858993459)) + ((((x - (((x.toUInt32 >>> ((nI 1).toUInt32 &&& Int32.toUInt32 31)).toInt32) &&& (nI 1431655765))).toUInt32 >>> ((nI 2).toUInt32 &&& Int32.toUInt32 31)).toInt32) &&& (nI 858993459))).toUInt32 >>> ((nI 4).toUInt32 &&& Int32.toUInt32 31)).toInt32)) &&& (nI 252645135)).toUInt32 >>> ((nI 8).toUInt32 &&& Int32.toUInt32 31)).toInt32)))]) rfl rfl ?_
  refine E_iload_n rfl rfl ?_
  refine E_iload_n rfl rfl ?_
  refine E_bipush (x := nI 16) rfl (by decide) ?_
  refine E_iushr (z := (((((((x - (((x.toUInt32 >>> ((nI 1).toUInt32 &&& Int32.toUInt32 31)).toInt32) &&& (nI 1431655765))) &&& (nI 858993459)) + ((((x - (((x.toUInt32 >>> ((nI 1).toUInt32 &&& Int32.toUInt32 31)).toInt32) &&& (nI 1431655765))).toUInt32 >>> ((nI 2).toUInt32 &&& Int32.toUInt32 31)).toInt32) &&& (nI 858993459))) + (((((x - (((x.toUInt32 >>> ((nI 1).toUInt32 &&& Int32.toUInt32 31)).toInt32) &&& (nI 1431655765))) &&& (nI 858993459)) + ((((x - (((x.toUInt32 >>> ((nI 1).toUInt32 &&& Int32.toUInt32 31)).toInt32) &&& (nI 1431655765))).toUInt32 >>> ((nI 2).toUInt32 &&& Int32.toUInt32 31)).toInt32) &&& (nI 858993459))).toUInt32 >>> ((nI 4).toUInt32 &&& Int32.toUInt32 31)).toInt32)) &&& (nI 252645135)) + (((((((x - (((x.toUInt32 >>> ((nI 1).toUInt32 &&& Int32.toUInt32 31)).toInt32) &&& (nI 1431655765))) &&& (nI 858993459)) + ((((x - (((x.toUInt32 >>> ((nI 1).toUInt32 &&& Int32.toUInt32 31)).toInt32) &&& (nI 1431655765))).toUInt32 >>> ((nI 2).toUInt32 &&& Int32.toUInt32 31)).toInt32) &&& (nI 858993459))) + (((((x - (((x.toUInt32 >>> ((nI 1).toUInt32 &&& Int32.toUInt32 31)).toInt32) &&& (nI 1431655765))) &&& (nI 858993459)) + ((((x - (((x.toUInt32 >>> ((nI 1).toUInt32 &&& Int32.toUInt32 31)).toInt32) &&& (nI 1431655765))).toUInt32 >>> ((nI 2).toUInt32 &&& Int32.toUInt32 31)).toInt32) &&& (nI 858993459))).toUInt32 >>> ((nI 4).toUInt32 &&& Int32.toUInt32 31)).toInt32)) &&& (nI 252645135)).toUInt32 >>> ((nI 8).toUInt32 &&& Int32.toUInt32 31)).toInt32)).toUInt32 >>> ((nI 16).toUInt32 &&& Int32.toUInt32 31)).toInt32) rfl rfl ?_
  refine E_iadd (z := ((((((x - (((x.toUInt32 >>> ((nI 1).toUInt32 &&& Int32.toUInt32 31)).toInt32) &&& (nI 1431655765))) &&& (nI 858993459)) + ((((x - (((x.toUInt32 >>> ((nI 1).toUInt32 &&& Int32.toUInt32 31)).toInt32) &&& (nI 1431655765))).toUInt32 >>> ((nI 2).toUInt32 &&& Int32.toUInt32 31)).toInt32) &&& (nI 858993459))) + (((((x - (((x.toUInt32 >>> ((nI 1).toUInt32 &&& Int32.toUInt32 31)).toInt32) &&& (nI 1431655765))) &&& (nI 858993459)) + ((((x - (((x.toUInt32 >>> ((nI 1).toUInt32 &&& Int32.toUInt32 31)).toInt32) &&& (nI 1431655765))).toUInt32 >>> ((nI 2).toUInt32 &&& Int32.toUInt32 31)).toInt32) &&& (nI 858993459))).toUInt32 >>> ((nI 4).toUInt32 &&& Int32.toUInt32 31)).toInt32)) &&& (nI 252645135)) + (((((((x - (((x.toUInt32 >>> ((nI 1).toUInt32 &&& Int32.toUInt32 31)).toInt32) &&& (nI 1431655765))) &&& (nI 858993459)) + ((((x - (((x.toUInt32 >>> ((nI 1).toUInt32 &&& Int32.toUInt32 31)).toInt32) &&& (nI 1431655765))).toUInt32 >>> ((nI 2).toUInt32 &&& Int32.toUInt32 31)).toInt32) &&& (nI 858993459))) + (((((x - (((x.toUInt32 >>> ((nI 1).toUInt32 &&& Int32.toUInt32 31)).toInt32) &&& (nI 1431655765))) &&& (nI 858993459)) + ((((x - (((x.toUInt32 >>> ((nI 1).toUInt32 &&& Int32.toUInt32 31)).toInt32) &&& (nI 1431655765))).toUInt32 >>> ((nI 2).toUInt32 &&& Int32.toUInt32 31)).toInt32) &&& (nI 858993459))).toUInt32 >>> ((nI 4).toUInt32 &&& Int32.toUInt32 31)).toInt32)) &&& (nI 252645135)).toUInt32 >>> ((nI 8).toUInt32 &&& Int32.toUInt32 31)).toInt32)) + ((((((((x - (((x.toUInt32 >>> ((nI 1).toUInt32 &&& Int32.toUInt32 31)).toInt32) &&& (nI 1431655765))) &&& (nI 858993459)) + ((((x - (((x.toUInt32 >>> ((nI 1).toUInt32 &&& Int32.toUInt32 31)).toInt32) &&& (nI 1431655765))).toUInt32 >>> ((nI 2).toUInt32 &&& Int32.toUInt32 31)).toInt32) &&& (nI 858993459))) + (((((x - (((x.toUInt32 >>> ((nI 1).toUInt32 &&& Int32.toUInt32 31)).toInt32) &&& (nI 1431655765))) &&& (nI 858993459)) + ((((x - (((x.toUInt32 >>> ((nI 1).toUInt32 &&& Int32.toUInt32 31)).toInt32) &&& (nI 1431655765))).toUInt32 >>> ((nI 2).toUInt32 &&& Int32.toUInt32 31)).toInt32) &&& (nI 858993459))).toUInt32 >>> ((nI 4).toUInt32 &&& Int32.toUInt32 31)).toInt32)) &&& (nI 252645135)) + (((((((x - (((x.toUInt32 >>> ((nI 1).toUInt32 &&& Int32.toUInt32 31)).toInt32) &&& (nI 1431655765))) &&& (nI 858993459)) + ((((x - (((x.toUInt32 >>> ((nI 1).toUInt32 &&& Int32.toUInt32 31)).toInt32) &&& (nI 1431655765))).toUInt32 >>> ((nI 2).toUInt32 &&& Int32.toUInt32 31)).toInt32) &&& (nI 858993459))) + (((((x - (((x.toUInt32 >>> ((nI 1).toUInt32 &&& Int32.toUInt32 31)).toInt32) &&& (nI 1431655765))) &&& (nI 858993459)) + ((((x - (((x.toUInt32 >>> ((nI 1).toUInt32 &&& Int32.toUInt32 31)).toInt32) &&& (nI 1431655765))).toUInt32 >>> ((nI 2).toUInt32 &&& Int32.toUInt32 31)).toInt32) &&& (nI 858993459))).toUInt32 >>> ((nI 4).toUInt32 &&& Int32.toUInt32 31)).toInt32)) &&& (nI 252645135)).toUInt32 >>> ((nI 8).toUInt32 &&& Int32.toUInt32 31)).toInt32)).toUInt32 >>> ((nI 16).toUInt32 &&& Int32.toUInt32 31)).toInt32)) rfl rfl ?_
  refine E_istore_n (L2 := [some (.int (((((((x - (((x.toUInt32 >>> ((nI 1).toUInt32 &&& Int32.toUInt32 31)).toInt32) &&& (nI 1431655765))) &&& (nI 858993459)) + ((((x - (((x.toUInt32 >>> ((nI 1).toUInt32 &&& Int32.toUInt32 31)).toInt32) &&& (nI 1431655765))).toUInt32 >>> ((nI 2).toUInt32 &&& Int32.toUInt32 31)).toInt32) &&& (nI 858993459))) + (((((x - (((x.toUInt32 >>> ((nI 1).toUInt32 &&& Int32.toUInt32 31)).toInt32) &&& (nI 1431655765))) &&& (nI 858993459)) + ((((x - (((x.toUInt32 >>> ((nI 1).toUInt32 &&& Int32.toUInt32 31)).toInt32) &&& (nI 1431655765))).toUInt32 >>> ((nI 2).toUInt32 &&& Int32.toUInt32 31)).toInt32) &&& (nI 858993459))).toUInt32 >>> ((nI 4).toUInt32 &&& Int32.toUInt32 31)).toInt32)) &&& (nI 252645135)) + (((((((x - (((x.toUInt32 >>> ((nI 1).toUInt32 &&& Int32.toUInt32 31)).toInt32) &&& (nI 1431655765))) &&& (nI 858993459)) + ((((x - (((x.toUInt32 >>> ((nI 1).toUInt32 &&& Int32.toUInt32 31)).toInt32) &&& (nI 1431655765))).toUInt32 >>> ((nI 2).toUInt32 &&& Int32.toUInt32 31)).toInt32) &&& (nI 858993459))) + (((((x - (((x.toUInt32 >>> ((nI 1).toUInt32 &&& Int32.toUInt32 31)).toInt32) &&& (nI 1431655765))) &&& (nI 858993459)) + ((((x - (((x.toUInt32 >>> ((nI 1).toUInt32 &&& Int32.toUInt32 31)).toInt32) &&& (nI 1431655765))).toUInt32 >>> ((nI 2).toUInt32 &&& Int32.toUInt32 31)).toInt32) &&& (nI 858993459))).toUInt32 >>> ((nI 4).toUInt32 &&& Int32.toUInt32 31)).toInt32)) &&& (nI 252645135)).toUInt32 >>> ((nI 8).toUInt32 &&& Int32.toUInt32 31)).toInt32)) + ((((((((x - (((x.toUInt32 >>> ((nI 1).toUInt32 &&& Int32.toUInt32 31)).toInt32) &&& (nI 1431655765))) &&& (nI 858993459)) + ((((x - (((x.toUInt32 >>> ((nI 1).toUInt32 &&& Int32.toUInt32 31)).toInt32) &&& (nI 1431655765))).toUInt32 >>> ((nI 2).toUInt32 &&& Int32.toUInt32 31)).toInt32) &&& (nI 858993459))) + (((((x - (((x.toUInt32 >>> ((nI 1).toUInt32 &&& Int32.toUInt32 31)).toInt32) &&& (nI 1431655765))) &&& (nI 858993459)) + ((((x - (((x.toUInt32 >>> ((nI 1).toUInt32 &&& Int32.toUInt32 31)).toInt32) &&& (nI 1431655765))).toUInt32 >>> ((nI 2).toUInt32 &&& Int32.toUInt32 31)).toInt32) &&& (nI 858993459))).toUInt32 >>> ((nI 4).toUInt32 &&& Int32.toUInt32 31)).toInt32)) &&& (nI 252645135)) + (((((((x - (((x.toUInt32 >>> ((nI 1).toUInt32 &&& Int32.toUInt32 31)).toInt32) &&& (nI 1431655765))) &&& (nI 858993459)) + ((((x - (((x.toUInt32 >>> ((nI 1).toUInt32 &&& Int32.toUInt32 31)).toInt32) &&& (nI 1431655765))).toUInt32 >>> ((nI 2).toUInt32 &&& Int32.toUInt32 31)).toInt32) &&& (nI 858993459))) + (((((x - (((x.toUInt32 >>> ((nI 1).toUInt32 &&& Int32.toUInt32 31)).toInt32) &&& (nI 1431655765))) &&& (nI 858993459)) + ((((x - (((x.toUInt32 >>> ((nI 1).toUInt32 &&& Int32.toUInt32 31)).toInt32) &&& (nI 1431655765))).toUInt32 >>> ((nI 2).toUInt32 &&& Int32.toUInt32 31)).toInt32) &&& (nI 858993459))).toUInt32 >>> ((nI 4).toUInt32 &&& Int32.toUInt32 31)).toInt32)) &&& (nI 252645135)).toUInt32 >>> ((nI 8).toUInt32 &&& Int32.toUInt32 31)).toInt32)).toUInt32 >>> ((nI 16).toUInt32 &&& Int32.toUInt32 31)).toInt32)))]) rfl rfl ?_
  refine E_iload_n rfl rfl ?_
  refine E_bipush (x := nI 63) rfl (by decide) ?_
  refine E_iand (z := (((((((x - (((x.toUInt32 >>> ((nI 1).toUInt32 &&& Int32.toUInt32 31)).toInt32) &&& (nI 1431655765))) &&& (nI 858993459)) + ((((x - (((x.toUInt32 >>> ((nI 1).toUInt32 &&& Int32.toUInt32 31)).toInt32) &&& (nI 1431655765))).toUInt32 >>> ((nI 2).toUInt32 &&& Int32.toUInt32 31)).toInt32) &&& (nI 858993459))) + (((((x - (((x.toUInt32 >>> ((nI 1).toUInt32 &&& Int32.toUInt32 31)).toInt32) &&& (nI 1431655765))) &&& (nI 858993459)) + ((((x - (((x.toUInt32 >>> ((nI 1).toUInt32 &&& Int32.toUInt32 31)).toInt32) &&& (nI 1431655765))).toUInt32 >>> ((nI 2).toUInt32 &&& Int32.toUInt32 31)).toInt32) &&& (nI 858993459))).toUInt32 >>> ((nI 4).toUInt32 &&& Int32.toUInt32 31)).toInt32)) &&& (nI 252645135)) + (((((((x - (((x.toUInt32 >>> ((nI 1).toUInt32 &&& Int32.toUInt32 31)).toInt32) &&& (nI 1431655765))) &&& (nI 858993459)) + ((((x - (((x.toUInt32 >>> ((nI 1).toUInt32 &&& Int32.toUInt32 31)).toInt32) &&& (nI 1431655765))).toUInt32 >>> ((nI 2).toUInt32 &&& Int32.toUInt32 31)).toInt32) &&& (nI 858993459))) + (((((x - (((x.toUInt32 >>> ((nI 1).toUInt32 &&& Int32.toUInt32 31)).toInt32) &&& (nI 1431655765))) &&& (nI 858993459)) + ((((x - (((x.toUInt32 >>> ((nI 1).toUInt32 &&& Int32.toUInt32 31)).toInt32) &&& (nI 1431655765))).toUInt32 >>> ((nI 2).toUInt32 &&& Int32.toUInt32 31)).toInt32) &&& (nI 858993459))).toUInt32 >>> ((nI 4).toUInt32 &&& Int32.toUInt32 31)).toInt32)) &&& (nI 252645135)).toUInt32 >>> ((nI 8).toUInt32 &&& Int32.toUInt32 31)).toInt32)) + ((((((((x - (((x.toUInt32 >>> ((nI 1).toUInt32 &&& Int32.toUInt32 31)).toInt32) &&& (nI 1431655765))) &&& (nI 858993459)) + ((((x - (((x.toUInt32 >>> ((nI 1).toUInt32 &&& Int32.toUInt32 31)).toInt32) &&& (nI 1431655765))).toUInt32 >>> ((nI 2).toUInt32 &&& Int32.toUInt32 31)).toInt32) &&& (nI 858993459))) + (((((x - (((x.toUInt32 >>> ((nI 1).toUInt32 &&& Int32.toUInt32 31)).toInt32) &&& (nI 1431655765))) &&& (nI 858993459)) + ((((x - (((x.toUInt32 >>> ((nI 1).toUInt32 &&& Int32.toUInt32 31)).toInt32) &&& (nI 1431655765))).toUInt32 >>> ((nI 2).toUInt32 &&& Int32.toUInt32 31)).toInt32) &&& (nI 858993459))).toUInt32 >>> ((nI 4).toUInt32 &&& Int32.toUInt32 31)).toInt32)) &&& (nI 252645135)) + (((((((x - (((x.toUInt32 >>> ((nI 1).toUInt32 &&& Int32.toUInt32 31)).toInt32) &&& (nI 1431655765))) &&& (nI 858993459)) + ((((x - (((x.toUInt32 >>> ((nI 1).toUInt32 &&& Int32.toUInt32 31)).toInt32) &&& (nI 1431655765))).toUInt32 >>> ((nI 2).toUInt32 &&& Int32.toUInt32 31)).toInt32) &&& (nI 858993459))) + (((((x - (((x.toUInt32 >>> ((nI 1).toUInt32 &&& Int32.toUInt32 31)).toInt32) &&& (nI 1431655765))) &&& (nI 858993459)) + ((((x - (((x.toUInt32 >>> ((nI 1).toUInt32 &&& Int32.toUInt32 31)).toInt32) &&& (nI 1431655765))).toUInt32 >>> ((nI 2).toUInt32 &&& Int32.toUInt32 31)).toInt32) &&& (nI 858993459))).toUInt32 >>> ((nI 4).toUInt32 &&& Int32.toUInt32 31)).toInt32)) &&& (nI 252645135)).toUInt32 >>> ((nI 8).toUInt32 &&& Int32.toUInt32 31)).toInt32)).toUInt32 >>> ((nI 16).toUInt32 &&& Int32.toUInt32 31)).toInt32)) &&& (nI 63)) rfl rfl ?_
  exact E_iret rfl rfl
def bcX (x : Int32) : Int32 := (((((((x - (((x.toUInt32 >>> ((nI 1).toUInt32 &&& Int32.toUInt32 31)).toInt32) &&& (nI 1431655765))) &&& (nI 858993459)) + ((((x - (((x.toUInt32 >>> ((nI 1).toUInt32 &&& Int32.toUInt32 31)).toInt32) &&& (nI 1431655765))).toUInt32 >>> ((nI 2).toUInt32 &&& Int32.toUInt32 31)).toInt32) &&& (nI 858993459))) + (((((x - (((x.toUInt32 >>> ((nI 1).toUInt32 &&& Int32.toUInt32 31)).toInt32) &&& (nI 1431655765))) &&& (nI 858993459)) + ((((x - (((x.toUInt32 >>> ((nI 1).toUInt32 &&& Int32.toUInt32 31)).toInt32) &&& (nI 1431655765))).toUInt32 >>> ((nI 2).toUInt32 &&& Int32.toUInt32 31)).toInt32) &&& (nI 858993459))).toUInt32 >>> ((nI 4).toUInt32 &&& Int32.toUInt32 31)).toInt32)) &&& (nI 252645135)) + (((((((x - (((x.toUInt32 >>> ((nI 1).toUInt32 &&& Int32.toUInt32 31)).toInt32) &&& (nI 1431655765))) &&& (nI 858993459)) + ((((x - (((x.toUInt32 >>> ((nI 1).toUInt32 &&& Int32.toUInt32 31)).toInt32) &&& (nI 1431655765))).toUInt32 >>> ((nI 2).toUInt32 &&& Int32.toUInt32 31)).toInt32) &&& (nI 858993459))) + (((((x - (((x.toUInt32 >>> ((nI 1).toUInt32 &&& Int32.toUInt32 31)).toInt32) &&& (nI 1431655765))) &&& (nI 858993459)) + ((((x - (((x.toUInt32 >>> ((nI 1).toUInt32 &&& Int32.toUInt32 31)).toInt32) &&& (nI 1431655765))).toUInt32 >>> ((nI 2).toUInt32 &&& Int32.toUInt32 31)).toInt32) &&& (nI 858993459))).toUInt32 >>> ((nI 4).toUInt32 &&& Int32.toUInt32 31)).toInt32)) &&& (nI 252645135)).toUInt32 >>> ((nI 8).toUInt32 &&& Int32.toUInt32 31)).toInt32)) + ((((((((x - (((x.toUInt32 >>> ((nI 1).toUInt32 &&& Int32.toUInt32 31)).toInt32) &&& (nI 1431655765))) &&& (nI 858993459)) + ((((x - (((x.toUInt32 >>> ((nI 1).toUInt32 &&& Int32.toUInt32 31)).toInt32) &&& (nI 1431655765))).toUInt32 >>> ((nI 2).toUInt32 &&& Int32.toUInt32 31)).toInt32) &&& (nI 858993459))) + (((((x - (((x.toUInt32 >>> ((nI 1).toUInt32 &&& Int32.toUInt32 31)).toInt32) &&& (nI 1431655765))) &&& (nI 858993459)) + ((((x - (((x.toUInt32 >>> ((nI 1).toUInt32 &&& Int32.toUInt32 31)).toInt32) &&& (nI 1431655765))).toUInt32 >>> ((nI 2).toUInt32 &&& Int32.toUInt32 31)).toInt32) &&& (nI 858993459))).toUInt32 >>> ((nI 4).toUInt32 &&& Int32.toUInt32 31)).toInt32)) &&& (nI 252645135)) + (((((((x - (((x.toUInt32 >>> ((nI 1).toUInt32 &&& Int32.toUInt32 31)).toInt32) &&& (nI 1431655765))) &&& (nI 858993459)) + ((((x - (((x.toUInt32 >>> ((nI 1).toUInt32 &&& Int32.toUInt32 31)).toInt32) &&& (nI 1431655765))).toUInt32 >>> ((nI 2).toUInt32 &&& Int32.toUInt32 31)).toInt32) &&& (nI 858993459))) + (((((x - (((x.toUInt32 >>> ((nI 1).toUInt32 &&& Int32.toUInt32 31)).toInt32) &&& (nI 1431655765))) &&& (nI 858993459)) + ((((x - (((x.toUInt32 >>> ((nI 1).toUInt32 &&& Int32.toUInt32 31)).toInt32) &&& (nI 1431655765))).toUInt32 >>> ((nI 2).toUInt32 &&& Int32.toUInt32 31)).toInt32) &&& (nI 858993459))).toUInt32 >>> ((nI 4).toUInt32 &&& Int32.toUInt32 31)).toInt32)) &&& (nI 252645135)).toUInt32 >>> ((nI 8).toUInt32 &&& Int32.toUInt32 31)).toInt32)).toUInt32 >>> ((nI 16).toUInt32 &&& Int32.toUInt32 31)).toInt32)) &&& (nI 63)
theorem bcX_eq : ∀ B, B < 512 → bcX (nI B) = nI (qMany B 9) := by decide +kernel
theorem w_bc {cs : List ab_C} {B : Nat} (h : B < 512) : Ev ab_Z0 1 213 [.int (nI B)] cs (some (.int (nI (qMany B 9))), cs) := by
  rw [← bcX_eq B h]
  exact w_bcx
theorem w_bcn {cs : List ab_C} : Ev ab_Z0 1 213 [.int (-1)] cs (some (.int (nI 32)), cs) := (by decide +kernel : bcX (-1) = nI 32) ▸ w_bcx
/-- the first place at which it holds -/
def fstP (P : Nat → Bool) : Nat → Nat → Int32
  | 0, _ => -1
  | n + 1, c => if P c = true then nI c else fstP P n (c + 1)
theorem fst_t {P : Nat → Bool} {n c : Nat} (h : P c = true) : fstP P (n + 1) c = nI c := if_pos h
theorem fst_f {P : Nat → Bool} {n c : Nat} (h : ¬ P c = true) : fstP P (n + 1) c = fstP P n (c + 1) := if_neg h
def flP0 (s : ab_q) (m c : Nat) : Bool := decide (bst s m (qN s) (2 ^ qN s) c ≠ 0 ∧ qGreedy s c = 0)
def flP1 (s : ab_q) (m c : Nat) : Bool := decide (bst s m (qN s) (2 ^ qN s) c ≠ 0 ∧ qGreedy s c ≠ 0 ∧ qMany (bst s m (qN s) (2 ^ qN s) c - 1) 9 < qMany (qGreedy s c - 1) 9)
section FL
variable {im : Int32} {lf : Int32} {s : ab_q} {d : ab_q} {k : ab_q} {ls : List Int32} {rf : Int32} {rz : Int32} {ra : Int32} {rn : Int32} {rq : ab_q} {lt : List Int32} {m1 : Int32} {m2 : Int32} {m3 : Int32} {m4 : Int32} {bd : List Int32} {fc : List Int32} {hd : Nat → Int32} {sz : Nat → Int32} {el : Nat → List Int64} {t : ab_q} {g : Nat → Int32} {fm : List Int32} {hm : List Nat} {so : List Nat} {si : List Nat} {sh : List Int32} {ce : List Int64} {ca : List Int64} {td : List Int32} {wa : List Int32} {kp : List Int32} {la : List Int32} {bf : List Int32} {oo : List Int32} {bo : List Int32} {pw : List Int32} {ow : List Int32} {tr : List Int32}
set_option maxHeartbeats 1000000 in
theorem fl_c0 {m : Nat} (I : qI s) : ∀ n0 v (x3 x4 x5 x6 : Option Value), v + n0 = 100 → 1 ≤ v → Ef ab_Z0 3 mX5_fails (36, [some (.ref 0), some (.int (nI 0)), some (.int (nI v)), x3, x4, x5, x6], [], (ww im lf s d k (lsF (wgh s m (qN s))) rf rz ra rn rq lt m1 m2 m3 m4 bd fc hd sz el t g fm hm so si sh ce ca td wa kp la bf oo bo pw ow tr)) (some (.int (fstP (flP0 s m) n0 v)), (ww im lf s d k (lsF (wgh s m (qN s))) rf rz ra rn rq lt m1 m2 m3 m4 bd fc hd sz el t g fm hm so si sh ce ca td wa kp la bf oo bo pw ow tr)) := by
  have h9 := I.2.2.1.1
  intro n0
  induction n0 with
  | zero =>
    intro v x3 x4 x5 x6 hi hv
    have hi : v = 100 := by omega
    rw [hi]
    have w9 : 2 ^ qN s ≤ 2 ^ 9 := Nat.pow_le_pow_right (by decide) (by omega)
    refine E_iload_n at_X5_fails_36 rfl ?_
    refine E_bipush (x := nI 100) at_X5_fails_37 (by decide) ?_
    refine E_ic (t := 129) (b := true) at_X5_fails_39 rfl (by decide) ?_
    refine E_iconst (x := (-1)) rfl (by decide) ?_
    exact E_iret rfl rfl
  | succ n0 ih =>
    intro v x3 x4 x5 x6 hi hv
    rcases wgh_bst s m (qN s) v with ⟨eb0, fb0⟩ | ⟨B0, hB0, hs0, hw0, hb0, hk0⟩
    · rcases hg0 : qGreedy s v with _ | gj0
      · have w9 : 2 ^ qN s ≤ 2 ^ 9 := Nat.pow_le_pow_right (by decide) (by omega)
        have := lsF_len (wgh s m (qN s))
        have hp : ¬ flP0 s m v = true := by exact fun z => (of_decide_eq_true z).1 fb0
        rw [fst_f hp]
        refine E_iload_n at_X5_fails_36 rfl ?_
        refine E_bipush (x := nI 100) at_X5_fails_37 (by decide) ?_
        refine E_ic (t := 129) (b := false) at_X5_fails_39 rfl ((cn_ge (nI_toInt (by omega)) (nI_toInt (by omega))).trans (decide_eq_false (by omega))) ?_
        refine E_aload_n at_X5_fails_42 rfl ?_
        refine E_getfield (v := .ref 32) at_X5_fails_43 w0 rfl (by decide) rfl ?_
        refine E_iload_n at_X5_fails_46 rfl ?_
        have e2 : Ev ab_Z0 2 4 [.ref 32, .int (nI v)] (ww im lf s d k (lsF (wgh s m (qN s))) rf rz ra rn rq lt m1 m2 m3 m4 bd fc hd sz el t g fm hm so si sh ce ca td wa kp la bf oo bo pw ow tr) (some (.int (-1)), (ww im lf s d k (lsF (wgh s m (qN s))) rf rz ra rn rq lt m1 m2 m3 m4 bd fc hd sz el t g fm hm so si sh ce ca td wa kp la bf oo bo pw ow tr)) := by
          refine Ef.in (md := mX0_fewestFor) (L := [some (.ref 32), some (.int (nI v))]) rfl (Nat.le_of_ble_eq_true rfl) rfl ?_
          refine E_iload_n at_X0_fewestFor_0 rfl ?_
          have e1 : Ev ab_Z0 1 48 [.int (nI v)] (ww im lf s d k (lsF (wgh s m (qN s))) rf rz ra rn rq lt m1 m2 m3 m4 bd fc hd sz el t g fm hm so si sh ce ca td wa kp la bf oo bo pw ow tr) (some (.int (nI 1)), (ww im lf s d k (lsF (wgh s m (qN s))) rf rz ra rn rq lt m1 m2 m3 m4 bd fc hd sz el t g fm hm so si sh ce ca td wa kp la bf oo bo pw ow tr)) := by
            refine Ef.in (md := mX4_isAmount) (L := [some (.int (nI v))]) rfl (Nat.le_of_ble_eq_true rfl) rfl ?_
            refine E_iload_n at_X4_isAmount_0 rfl ?_
            refine E_if (t := 14) (b := false) at_X4_isAmount_1 rfl ((cn_lt (nI_toInt (by omega)) (by decide : (0 : Int32).toInt = 0)).trans (decide_eq_false (by omega))) ?_
            refine E_iload_n at_X4_isAmount_4 rfl ?_
            refine E_bipush (x := nI 100) at_X4_isAmount_5 (by decide) ?_
            refine E_ic (t := 14) (b := false) at_X4_isAmount_7 rfl ((cn_ge (nI_toInt (by omega)) (nI_toInt (by omega))).trans (decide_eq_false (by omega))) ?_
            refine E_iconst (x := nI 1) at_X4_isAmount_10 (by decide) ?_
            refine E_goto (t := 15) at_X4_isAmount_11 rfl ?_
            exact E_iret at_X4_isAmount_15 rfl
          refine E_callS (v := some (.int (nI 1))) (As := [.int (nI v)]) (r0 := []) (cs2 := (ww im lf s d k (lsF (wgh s m (qN s))) rf rz ra rn rq lt m1 m2 m3 m4 bd fc hd sz el t g fm hm so si sh ce ca td wa kp la bf oo bo pw ow tr)) at_X0_fewestFor_1 rfl rfl (Nat.le_of_ble_eq_true rfl) rfl e1 (by decide) rfl ?_
          refine E_if (t := 17) (b := false) at_X0_fewestFor_4 rfl (by decide) ?_
          refine E_aload_n at_X0_fewestFor_7 rfl ?_
          refine E_getfield (v := .ref 33) at_X0_fewestFor_8 w32 rfl (by decide) rfl ?_
          refine E_iload_n at_X0_fewestFor_11 rfl ?_
          refine E_ialI (l := (lsF (wgh s m (qN s)))) (v := (-1)) at_X0_fewestFor_12 w33 (by omega) (by omega) (by rw [lsF_get (by omega), eb0]; rfl) ?_
          refine E_iconst (x := (-1)) at_X0_fewestFor_13 (by decide) ?_
          refine E_ic (t := 19) (b := false) at_X0_fewestFor_14 rfl (by decide) ?_
          refine E_iconst (x := (-1)) at_X0_fewestFor_17 (by decide) ?_
          exact E_iret at_X0_fewestFor_18 rfl
        refine E_callV (v := some (.int (-1))) (As := [.ref 32, .int (nI v)]) (r0 := []) (cs2 := (ww im lf s d k (lsF (wgh s m (qN s))) rf rz ra rn rq lt m1 m2 m3 m4 bd fc hd sz el t g fm hm so si sh ce ca td wa kp la bf oo bo pw ow tr)) at_X5_fails_47 rfl rfl (Nat.le_of_ble_eq_true rfl) rfl (ab_rvOf w32 rfl) e2 (by decide) rfl ?_
        refine E_istore_n (L2 := [some (.ref 0), some (.int (nI 0)), some (.int (nI v)), some (.int (-1)), x4, x5, x6]) at_X5_fails_50 rfl ?_
        refine E_aload_n at_X5_fails_51 rfl ?_
        refine E_getfield (v := .ref 1) at_X5_fails_52 w0 rfl (by decide) rfl ?_
        refine E_iload_n at_X5_fails_55 rfl ?_
        refine E_callV (v := some (.int (-1))) (As := [.ref 1, .int (nI v)]) (r0 := []) (cs2 := (ww im lf s d k (lsF (wgh s m (qN s))) rf rz ra rn rq lt m1 m2 m3 m4 bd fc hd sz el t g fm hm so si sh ce ca td wa kp la bf oo bo pw ow tr)) at_X5_fails_56 rfl rfl (Nat.le_of_ble_eq_true rfl) rfl (ab_rvOf w1 rfl) (Ev.g0 hg0 (sq_greedyFor w_q1 I (by omega))) (by decide) rfl ?_
        refine E_istore (L2 := [some (.ref 0), some (.int (nI 0)), some (.int (nI v)), some (.int (-1)), some (.int (-1)), x5, x6]) at_X5_fails_59 rfl ?_
        refine E_iload_n at_X5_fails_61 rfl ?_
        refine E_iconst (x := (-1)) at_X5_fails_62 (by decide) ?_
        refine E_ic (t := 76) (b := true) at_X5_fails_63 rfl (by decide) ?_
        refine E_iconst (x := nI 0) at_X5_fails_76 (by decide) ?_
        refine E_istore (L2 := [some (.ref 0), some (.int (nI 0)), some (.int (nI v)), some (.int (-1)), some (.int (-1)), some (.int (nI 0)), x6]) at_X5_fails_77 rfl ?_
        refine E_iload at_X5_fails_79 rfl ?_
        refine E_iconst (x := (-1)) at_X5_fails_81 (by decide) ?_
        refine E_ic (t := 101) (b := true) at_X5_fails_82 rfl (by decide) ?_
        refine E_iconst (x := nI 0) at_X5_fails_101 (by decide) ?_
        refine E_istore (L2 := [some (.ref 0), some (.int (nI 0)), some (.int (nI v)), some (.int (-1)), some (.int (-1)), some (.int (nI 0)), some (.int (nI 0))]) at_X5_fails_102 rfl ?_
        refine E_iload_n at_X5_fails_104 rfl ?_
        refine E_if (t := 116) (b := false) at_X5_fails_105 rfl (by decide) ?_
        refine E_iload at_X5_fails_108 rfl ?_
        refine E_if (t := 123) (b := true) at_X5_fails_110 rfl (by decide) ?_
        refine E_iinc (y := nI (v + 1)) (L2 := [some (.ref 0), some (.int (nI 0)), some (.int (nI (v + 1))), some (.int (-1)), some (.int (-1)), some (.int (nI 0)), some (.int (nI 0))]) at_X5_fails_123 rfl (nI_1 _) rfl ?_
        refine E_goto (t := 36) at_X5_fails_126 rfl ?_
        exact ih (v + 1) _ _ _ _ (by omega) (by omega)
      · have w9 : 2 ^ qN s ≤ 2 ^ 9 := Nat.pow_le_pow_right (by decide) (by omega)
        have := lsF_len (wgh s m (qN s))
        have hh0 : gj0 + 1 ≤ 512 := hg0 ▸ qGr_512 I v
        have := qMany_in gj0 9
        have hp : ¬ flP0 s m v = true := by exact fun z => (of_decide_eq_true z).1 fb0
        rw [fst_f hp]
        refine E_iload_n at_X5_fails_36 rfl ?_
        refine E_bipush (x := nI 100) at_X5_fails_37 (by decide) ?_
        refine E_ic (t := 129) (b := false) at_X5_fails_39 rfl ((cn_ge (nI_toInt (by omega)) (nI_toInt (by omega))).trans (decide_eq_false (by omega))) ?_
        refine E_aload_n at_X5_fails_42 rfl ?_
        refine E_getfield (v := .ref 32) at_X5_fails_43 w0 rfl (by decide) rfl ?_
        refine E_iload_n at_X5_fails_46 rfl ?_
        have e2 : Ev ab_Z0 2 4 [.ref 32, .int (nI v)] (ww im lf s d k (lsF (wgh s m (qN s))) rf rz ra rn rq lt m1 m2 m3 m4 bd fc hd sz el t g fm hm so si sh ce ca td wa kp la bf oo bo pw ow tr) (some (.int (-1)), (ww im lf s d k (lsF (wgh s m (qN s))) rf rz ra rn rq lt m1 m2 m3 m4 bd fc hd sz el t g fm hm so si sh ce ca td wa kp la bf oo bo pw ow tr)) := by
          refine Ef.in (md := mX0_fewestFor) (L := [some (.ref 32), some (.int (nI v))]) rfl (Nat.le_of_ble_eq_true rfl) rfl ?_
          refine E_iload_n at_X0_fewestFor_0 rfl ?_
          have e1 : Ev ab_Z0 1 48 [.int (nI v)] (ww im lf s d k (lsF (wgh s m (qN s))) rf rz ra rn rq lt m1 m2 m3 m4 bd fc hd sz el t g fm hm so si sh ce ca td wa kp la bf oo bo pw ow tr) (some (.int (nI 1)), (ww im lf s d k (lsF (wgh s m (qN s))) rf rz ra rn rq lt m1 m2 m3 m4 bd fc hd sz el t g fm hm so si sh ce ca td wa kp la bf oo bo pw ow tr)) := by
            refine Ef.in (md := mX4_isAmount) (L := [some (.int (nI v))]) rfl (Nat.le_of_ble_eq_true rfl) rfl ?_
            refine E_iload_n at_X4_isAmount_0 rfl ?_
            refine E_if (t := 14) (b := false) at_X4_isAmount_1 rfl ((cn_lt (nI_toInt (by omega)) (by decide : (0 : Int32).toInt = 0)).trans (decide_eq_false (by omega))) ?_
            refine E_iload_n at_X4_isAmount_4 rfl ?_
            refine E_bipush (x := nI 100) at_X4_isAmount_5 (by decide) ?_
            refine E_ic (t := 14) (b := false) at_X4_isAmount_7 rfl ((cn_ge (nI_toInt (by omega)) (nI_toInt (by omega))).trans (decide_eq_false (by omega))) ?_
            refine E_iconst (x := nI 1) at_X4_isAmount_10 (by decide) ?_
            refine E_goto (t := 15) at_X4_isAmount_11 rfl ?_
            exact E_iret at_X4_isAmount_15 rfl
          refine E_callS (v := some (.int (nI 1))) (As := [.int (nI v)]) (r0 := []) (cs2 := (ww im lf s d k (lsF (wgh s m (qN s))) rf rz ra rn rq lt m1 m2 m3 m4 bd fc hd sz el t g fm hm so si sh ce ca td wa kp la bf oo bo pw ow tr)) at_X0_fewestFor_1 rfl rfl (Nat.le_of_ble_eq_true rfl) rfl e1 (by decide) rfl ?_
          refine E_if (t := 17) (b := false) at_X0_fewestFor_4 rfl (by decide) ?_
          refine E_aload_n at_X0_fewestFor_7 rfl ?_
          refine E_getfield (v := .ref 33) at_X0_fewestFor_8 w32 rfl (by decide) rfl ?_
          refine E_iload_n at_X0_fewestFor_11 rfl ?_
          refine E_ialI (l := (lsF (wgh s m (qN s)))) (v := (-1)) at_X0_fewestFor_12 w33 (by omega) (by omega) (by rw [lsF_get (by omega), eb0]; rfl) ?_
          refine E_iconst (x := (-1)) at_X0_fewestFor_13 (by decide) ?_
          refine E_ic (t := 19) (b := false) at_X0_fewestFor_14 rfl (by decide) ?_
          refine E_iconst (x := (-1)) at_X0_fewestFor_17 (by decide) ?_
          exact E_iret at_X0_fewestFor_18 rfl
        refine E_callV (v := some (.int (-1))) (As := [.ref 32, .int (nI v)]) (r0 := []) (cs2 := (ww im lf s d k (lsF (wgh s m (qN s))) rf rz ra rn rq lt m1 m2 m3 m4 bd fc hd sz el t g fm hm so si sh ce ca td wa kp la bf oo bo pw ow tr)) at_X5_fails_47 rfl rfl (Nat.le_of_ble_eq_true rfl) rfl (ab_rvOf w32 rfl) e2 (by decide) rfl ?_
        refine E_istore_n (L2 := [some (.ref 0), some (.int (nI 0)), some (.int (nI v)), some (.int (-1)), x4, x5, x6]) at_X5_fails_50 rfl ?_
        refine E_aload_n at_X5_fails_51 rfl ?_
        refine E_getfield (v := .ref 1) at_X5_fails_52 w0 rfl (by decide) rfl ?_
        refine E_iload_n at_X5_fails_55 rfl ?_
        refine E_callV (v := some (.int (nI gj0))) (As := [.ref 1, .int (nI v)]) (r0 := []) (cs2 := (ww im lf s d k (lsF (wgh s m (qN s))) rf rz ra rn rq lt m1 m2 m3 m4 bd fc hd sz el t g fm hm so si sh ce ca td wa kp la bf oo bo pw ow tr)) at_X5_fails_56 rfl rfl (Nat.le_of_ble_eq_true rfl) rfl (ab_rvOf w1 rfl) (Ev.g1 hg0 (sq_greedyFor w_q1 I (by omega))) (by decide) rfl ?_
        refine E_istore (L2 := [some (.ref 0), some (.int (nI 0)), some (.int (nI v)), some (.int (-1)), some (.int (nI gj0)), x5, x6]) at_X5_fails_59 rfl ?_
        refine E_iload_n at_X5_fails_61 rfl ?_
        refine E_iconst (x := (-1)) at_X5_fails_62 (by decide) ?_
        refine E_ic (t := 76) (b := true) at_X5_fails_63 rfl (by decide) ?_
        refine E_iconst (x := nI 0) at_X5_fails_76 (by decide) ?_
        refine E_istore (L2 := [some (.ref 0), some (.int (nI 0)), some (.int (nI v)), some (.int (-1)), some (.int (nI gj0)), some (.int (nI 0)), x6]) at_X5_fails_77 rfl ?_
        refine E_iload at_X5_fails_79 rfl ?_
        refine E_iconst (x := (-1)) at_X5_fails_81 (by decide) ?_
        refine E_ic (t := 101) (b := false) at_X5_fails_82 rfl ((cn_eq (nI_toInt (by omega)) (by decide : (-1 : Int32).toInt = -1)).trans (decide_eq_false (by omega))) ?_
        refine E_iload at_X5_fails_85 rfl ?_
        refine E_callS (v := some (.int (nI (qMany gj0 9)))) (As := [.int (nI gj0)]) (r0 := []) (cs2 := (ww im lf s d k (lsF (wgh s m (qN s))) rf rz ra rn rq lt m1 m2 m3 m4 bd fc hd sz el t g fm hm so si sh ce ca td wa kp la bf oo bo pw ow tr)) at_X5_fails_87 rfl rfl (Nat.le_of_ble_eq_true rfl) rfl (w_bc (by omega)) (by decide) rfl ?_
        refine E_iload_n at_X5_fails_90 rfl ?_
        refine E_callS (v := some (.int (nI 32))) (As := [.int (-1)]) (r0 := [.int (nI (qMany gj0 9))]) (cs2 := (ww im lf s d k (lsF (wgh s m (qN s))) rf rz ra rn rq lt m1 m2 m3 m4 bd fc hd sz el t g fm hm so si sh ce ca td wa kp la bf oo bo pw ow tr)) at_X5_fails_91 rfl rfl (Nat.le_of_ble_eq_true rfl) rfl w_bcn (by decide) rfl ?_
        refine E_ic (t := 101) (b := true) at_X5_fails_94 rfl ((cn_le (nI_toInt (by omega)) (nI_toInt (by omega))).trans (decide_eq_true (by omega))) ?_
        refine E_iconst (x := nI 0) at_X5_fails_101 (by decide) ?_
        refine E_istore (L2 := [some (.ref 0), some (.int (nI 0)), some (.int (nI v)), some (.int (-1)), some (.int (nI gj0)), some (.int (nI 0)), some (.int (nI 0))]) at_X5_fails_102 rfl ?_
        refine E_iload_n at_X5_fails_104 rfl ?_
        refine E_if (t := 116) (b := false) at_X5_fails_105 rfl (by decide) ?_
        refine E_iload at_X5_fails_108 rfl ?_
        refine E_if (t := 123) (b := true) at_X5_fails_110 rfl (by decide) ?_
        refine E_iinc (y := nI (v + 1)) (L2 := [some (.ref 0), some (.int (nI 0)), some (.int (nI (v + 1))), some (.int (-1)), some (.int (nI gj0)), some (.int (nI 0)), some (.int (nI 0))]) at_X5_fails_123 rfl (nI_1 _) rfl ?_
        refine E_goto (t := 36) at_X5_fails_126 rfl ?_
        exact ih (v + 1) _ _ _ _ (by omega) (by omega)
    · rcases hg0 : qGreedy s v with _ | gj0
      · have w9 : 2 ^ qN s ≤ 2 ^ 9 := Nat.pow_le_pow_right (by decide) (by omega)
        have := lsF_len (wgh s m (qN s))
        have kb0 := kAt_bits I hB0
        have hp : flP0 s m v = true := by exact decide_eq_true ⟨by rw [hb0]; omega, hg0⟩
        rw [fst_t hp]
        refine E_iload_n at_X5_fails_36 rfl ?_
        refine E_bipush (x := nI 100) at_X5_fails_37 (by decide) ?_
        refine E_ic (t := 129) (b := false) at_X5_fails_39 rfl ((cn_ge (nI_toInt (by omega)) (nI_toInt (by omega))).trans (decide_eq_false (by omega))) ?_
        refine E_aload_n at_X5_fails_42 rfl ?_
        refine E_getfield (v := .ref 32) at_X5_fails_43 w0 rfl (by decide) rfl ?_
        refine E_iload_n at_X5_fails_46 rfl ?_
        have e2 : Ev ab_Z0 2 4 [.ref 32, .int (nI v)] (ww im lf s d k (lsF (wgh s m (qN s))) rf rz ra rn rq lt m1 m2 m3 m4 bd fc hd sz el t g fm hm so si sh ce ca td wa kp la bf oo bo pw ow tr) (some (.int (nI B0)), (ww im lf s d k (lsF (wgh s m (qN s))) rf rz ra rn rq lt m1 m2 m3 m4 bd fc hd sz el t g fm hm so si sh ce ca td wa kp la bf oo bo pw ow tr)) := by
          refine Ef.in (md := mX0_fewestFor) (L := [some (.ref 32), some (.int (nI v))]) rfl (Nat.le_of_ble_eq_true rfl) rfl ?_
          refine E_iload_n at_X0_fewestFor_0 rfl ?_
          have e1 : Ev ab_Z0 1 48 [.int (nI v)] (ww im lf s d k (lsF (wgh s m (qN s))) rf rz ra rn rq lt m1 m2 m3 m4 bd fc hd sz el t g fm hm so si sh ce ca td wa kp la bf oo bo pw ow tr) (some (.int (nI 1)), (ww im lf s d k (lsF (wgh s m (qN s))) rf rz ra rn rq lt m1 m2 m3 m4 bd fc hd sz el t g fm hm so si sh ce ca td wa kp la bf oo bo pw ow tr)) := by
            refine Ef.in (md := mX4_isAmount) (L := [some (.int (nI v))]) rfl (Nat.le_of_ble_eq_true rfl) rfl ?_
            refine E_iload_n at_X4_isAmount_0 rfl ?_
            refine E_if (t := 14) (b := false) at_X4_isAmount_1 rfl ((cn_lt (nI_toInt (by omega)) (by decide : (0 : Int32).toInt = 0)).trans (decide_eq_false (by omega))) ?_
            refine E_iload_n at_X4_isAmount_4 rfl ?_
            refine E_bipush (x := nI 100) at_X4_isAmount_5 (by decide) ?_
            refine E_ic (t := 14) (b := false) at_X4_isAmount_7 rfl ((cn_ge (nI_toInt (by omega)) (nI_toInt (by omega))).trans (decide_eq_false (by omega))) ?_
            refine E_iconst (x := nI 1) at_X4_isAmount_10 (by decide) ?_
            refine E_goto (t := 15) at_X4_isAmount_11 rfl ?_
            exact E_iret at_X4_isAmount_15 rfl
          refine E_callS (v := some (.int (nI 1))) (As := [.int (nI v)]) (r0 := []) (cs2 := (ww im lf s d k (lsF (wgh s m (qN s))) rf rz ra rn rq lt m1 m2 m3 m4 bd fc hd sz el t g fm hm so si sh ce ca td wa kp la bf oo bo pw ow tr)) at_X0_fewestFor_1 rfl rfl (Nat.le_of_ble_eq_true rfl) rfl e1 (by decide) rfl ?_
          refine E_if (t := 17) (b := false) at_X0_fewestFor_4 rfl (by decide) ?_
          refine E_aload_n at_X0_fewestFor_7 rfl ?_
          refine E_getfield (v := .ref 33) at_X0_fewestFor_8 w32 rfl (by decide) rfl ?_
          refine E_iload_n at_X0_fewestFor_11 rfl ?_
          refine E_ialI (l := (lsF (wgh s m (qN s)))) (v := nI (kAt s B0 (qN s))) at_X0_fewestFor_12 w33 (by omega) (by omega) (by rw [lsF_get (by omega), hk0]; exact qE_s _) ?_
          refine E_iconst (x := (-1)) at_X0_fewestFor_13 (by decide) ?_
          refine E_ic (t := 19) (b := true) at_X0_fewestFor_14 rfl ((cn_ne (nI_toInt (by omega)) (by decide : (-1 : Int32).toInt = -1)).trans (decide_eq_true (by omega))) ?_
          refine E_aload_n at_X0_fewestFor_19 rfl ?_
          refine E_getfield (v := .ref 33) at_X0_fewestFor_20 w32 rfl (by decide) rfl ?_
          refine E_iload_n at_X0_fewestFor_23 rfl ?_
          refine E_ialI (l := (lsF (wgh s m (qN s)))) (v := nI (kAt s B0 (qN s))) at_X0_fewestFor_24 w33 (by omega) (by omega) (by rw [lsF_get (by omega), hk0]; exact qE_s _) ?_
          refine E_sipush (x := nI 1023) at_X0_fewestFor_25 (by decide) ?_
          refine E_iand (z := nI B0) at_X0_fewestFor_28 (kAt_and I hB0) ?_
          exact E_iret at_X0_fewestFor_29 rfl
        refine E_callV (v := some (.int (nI B0))) (As := [.ref 32, .int (nI v)]) (r0 := []) (cs2 := (ww im lf s d k (lsF (wgh s m (qN s))) rf rz ra rn rq lt m1 m2 m3 m4 bd fc hd sz el t g fm hm so si sh ce ca td wa kp la bf oo bo pw ow tr)) at_X5_fails_47 rfl rfl (Nat.le_of_ble_eq_true rfl) rfl (ab_rvOf w32 rfl) e2 (by decide) rfl ?_
        refine E_istore_n (L2 := [some (.ref 0), some (.int (nI 0)), some (.int (nI v)), some (.int (nI B0)), x4, x5, x6]) at_X5_fails_50 rfl ?_
        refine E_aload_n at_X5_fails_51 rfl ?_
        refine E_getfield (v := .ref 1) at_X5_fails_52 w0 rfl (by decide) rfl ?_
        refine E_iload_n at_X5_fails_55 rfl ?_
        refine E_callV (v := some (.int (-1))) (As := [.ref 1, .int (nI v)]) (r0 := []) (cs2 := (ww im lf s d k (lsF (wgh s m (qN s))) rf rz ra rn rq lt m1 m2 m3 m4 bd fc hd sz el t g fm hm so si sh ce ca td wa kp la bf oo bo pw ow tr)) at_X5_fails_56 rfl rfl (Nat.le_of_ble_eq_true rfl) rfl (ab_rvOf w1 rfl) (Ev.g0 hg0 (sq_greedyFor w_q1 I (by omega))) (by decide) rfl ?_
        refine E_istore (L2 := [some (.ref 0), some (.int (nI 0)), some (.int (nI v)), some (.int (nI B0)), some (.int (-1)), x5, x6]) at_X5_fails_59 rfl ?_
        refine E_iload_n at_X5_fails_61 rfl ?_
        refine E_iconst (x := (-1)) at_X5_fails_62 (by decide) ?_
        refine E_ic (t := 76) (b := false) at_X5_fails_63 rfl ((cn_eq (nI_toInt (by omega)) (by decide : (-1 : Int32).toInt = -1)).trans (decide_eq_false (by omega))) ?_
        refine E_iload at_X5_fails_66 rfl ?_
        refine E_iconst (x := (-1)) at_X5_fails_68 (by decide) ?_
        refine E_ic (t := 76) (b := false) at_X5_fails_69 rfl (by decide) ?_
        refine E_iconst (x := nI 1) rfl (by decide) ?_
        refine E_goto (t := 77) rfl rfl ?_
        refine E_istore (L2 := [some (.ref 0), some (.int (nI 0)), some (.int (nI v)), some (.int (nI B0)), some (.int (-1)), some (.int (nI 1)), x6]) at_X5_fails_77 rfl ?_
        refine E_iload at_X5_fails_79 rfl ?_
        refine E_iconst (x := (-1)) at_X5_fails_81 (by decide) ?_
        refine E_ic (t := 101) (b := true) at_X5_fails_82 rfl (by decide) ?_
        refine E_iconst (x := nI 0) at_X5_fails_101 (by decide) ?_
        refine E_istore (L2 := [some (.ref 0), some (.int (nI 0)), some (.int (nI v)), some (.int (nI B0)), some (.int (-1)), some (.int (nI 1)), some (.int (nI 0))]) at_X5_fails_102 rfl ?_
        refine E_iload_n at_X5_fails_104 rfl ?_
        refine E_if (t := 116) (b := false) at_X5_fails_105 rfl (by decide) ?_
        refine E_iload at_X5_fails_108 rfl ?_
        refine E_if (t := 123) (b := false) at_X5_fails_110 rfl (by decide) ?_
        refine E_goto (t := 121) rfl rfl ?_
        refine E_iload_n rfl rfl ?_
        exact E_iret rfl rfl
      · by_cases f2 : (qMany B0 9) < (qMany gj0 9)
        · have w9 : 2 ^ qN s ≤ 2 ^ 9 := Nat.pow_le_pow_right (by decide) (by omega)
          have := lsF_len (wgh s m (qN s))
          have kb0 := kAt_bits I hB0
          have hh0 : gj0 + 1 ≤ 512 := hg0 ▸ qGr_512 I v
          have := qMany_in gj0 9
          have := qMany_in B0 9
          have hp : ¬ flP0 s m v = true := by exact fun z => absurd (of_decide_eq_true z).2 (by rw [hg0]; omega)
          rw [fst_f hp]
          refine E_iload_n at_X5_fails_36 rfl ?_
          refine E_bipush (x := nI 100) at_X5_fails_37 (by decide) ?_
          refine E_ic (t := 129) (b := false) at_X5_fails_39 rfl ((cn_ge (nI_toInt (by omega)) (nI_toInt (by omega))).trans (decide_eq_false (by omega))) ?_
          refine E_aload_n at_X5_fails_42 rfl ?_
          refine E_getfield (v := .ref 32) at_X5_fails_43 w0 rfl (by decide) rfl ?_
          refine E_iload_n at_X5_fails_46 rfl ?_
          have e2 : Ev ab_Z0 2 4 [.ref 32, .int (nI v)] (ww im lf s d k (lsF (wgh s m (qN s))) rf rz ra rn rq lt m1 m2 m3 m4 bd fc hd sz el t g fm hm so si sh ce ca td wa kp la bf oo bo pw ow tr) (some (.int (nI B0)), (ww im lf s d k (lsF (wgh s m (qN s))) rf rz ra rn rq lt m1 m2 m3 m4 bd fc hd sz el t g fm hm so si sh ce ca td wa kp la bf oo bo pw ow tr)) := by
            refine Ef.in (md := mX0_fewestFor) (L := [some (.ref 32), some (.int (nI v))]) rfl (Nat.le_of_ble_eq_true rfl) rfl ?_
            refine E_iload_n at_X0_fewestFor_0 rfl ?_
            have e1 : Ev ab_Z0 1 48 [.int (nI v)] (ww im lf s d k (lsF (wgh s m (qN s))) rf rz ra rn rq lt m1 m2 m3 m4 bd fc hd sz el t g fm hm so si sh ce ca td wa kp la bf oo bo pw ow tr) (some (.int (nI 1)), (ww im lf s d k (lsF (wgh s m (qN s))) rf rz ra rn rq lt m1 m2 m3 m4 bd fc hd sz el t g fm hm so si sh ce ca td wa kp la bf oo bo pw ow tr)) := by
              refine Ef.in (md := mX4_isAmount) (L := [some (.int (nI v))]) rfl (Nat.le_of_ble_eq_true rfl) rfl ?_
              refine E_iload_n at_X4_isAmount_0 rfl ?_
              refine E_if (t := 14) (b := false) at_X4_isAmount_1 rfl ((cn_lt (nI_toInt (by omega)) (by decide : (0 : Int32).toInt = 0)).trans (decide_eq_false (by omega))) ?_
              refine E_iload_n at_X4_isAmount_4 rfl ?_
              refine E_bipush (x := nI 100) at_X4_isAmount_5 (by decide) ?_
              refine E_ic (t := 14) (b := false) at_X4_isAmount_7 rfl ((cn_ge (nI_toInt (by omega)) (nI_toInt (by omega))).trans (decide_eq_false (by omega))) ?_
              refine E_iconst (x := nI 1) at_X4_isAmount_10 (by decide) ?_
              refine E_goto (t := 15) at_X4_isAmount_11 rfl ?_
              exact E_iret at_X4_isAmount_15 rfl
            refine E_callS (v := some (.int (nI 1))) (As := [.int (nI v)]) (r0 := []) (cs2 := (ww im lf s d k (lsF (wgh s m (qN s))) rf rz ra rn rq lt m1 m2 m3 m4 bd fc hd sz el t g fm hm so si sh ce ca td wa kp la bf oo bo pw ow tr)) at_X0_fewestFor_1 rfl rfl (Nat.le_of_ble_eq_true rfl) rfl e1 (by decide) rfl ?_
            refine E_if (t := 17) (b := false) at_X0_fewestFor_4 rfl (by decide) ?_
            refine E_aload_n at_X0_fewestFor_7 rfl ?_
            refine E_getfield (v := .ref 33) at_X0_fewestFor_8 w32 rfl (by decide) rfl ?_
            refine E_iload_n at_X0_fewestFor_11 rfl ?_
            refine E_ialI (l := (lsF (wgh s m (qN s)))) (v := nI (kAt s B0 (qN s))) at_X0_fewestFor_12 w33 (by omega) (by omega) (by rw [lsF_get (by omega), hk0]; exact qE_s _) ?_
            refine E_iconst (x := (-1)) at_X0_fewestFor_13 (by decide) ?_
            refine E_ic (t := 19) (b := true) at_X0_fewestFor_14 rfl ((cn_ne (nI_toInt (by omega)) (by decide : (-1 : Int32).toInt = -1)).trans (decide_eq_true (by omega))) ?_
            refine E_aload_n at_X0_fewestFor_19 rfl ?_
            refine E_getfield (v := .ref 33) at_X0_fewestFor_20 w32 rfl (by decide) rfl ?_
            refine E_iload_n at_X0_fewestFor_23 rfl ?_
            refine E_ialI (l := (lsF (wgh s m (qN s)))) (v := nI (kAt s B0 (qN s))) at_X0_fewestFor_24 w33 (by omega) (by omega) (by rw [lsF_get (by omega), hk0]; exact qE_s _) ?_
            refine E_sipush (x := nI 1023) at_X0_fewestFor_25 (by decide) ?_
            refine E_iand (z := nI B0) at_X0_fewestFor_28 (kAt_and I hB0) ?_
            exact E_iret at_X0_fewestFor_29 rfl
          refine E_callV (v := some (.int (nI B0))) (As := [.ref 32, .int (nI v)]) (r0 := []) (cs2 := (ww im lf s d k (lsF (wgh s m (qN s))) rf rz ra rn rq lt m1 m2 m3 m4 bd fc hd sz el t g fm hm so si sh ce ca td wa kp la bf oo bo pw ow tr)) at_X5_fails_47 rfl rfl (Nat.le_of_ble_eq_true rfl) rfl (ab_rvOf w32 rfl) e2 (by decide) rfl ?_
          refine E_istore_n (L2 := [some (.ref 0), some (.int (nI 0)), some (.int (nI v)), some (.int (nI B0)), x4, x5, x6]) at_X5_fails_50 rfl ?_
          refine E_aload_n at_X5_fails_51 rfl ?_
          refine E_getfield (v := .ref 1) at_X5_fails_52 w0 rfl (by decide) rfl ?_
          refine E_iload_n at_X5_fails_55 rfl ?_
          refine E_callV (v := some (.int (nI gj0))) (As := [.ref 1, .int (nI v)]) (r0 := []) (cs2 := (ww im lf s d k (lsF (wgh s m (qN s))) rf rz ra rn rq lt m1 m2 m3 m4 bd fc hd sz el t g fm hm so si sh ce ca td wa kp la bf oo bo pw ow tr)) at_X5_fails_56 rfl rfl (Nat.le_of_ble_eq_true rfl) rfl (ab_rvOf w1 rfl) (Ev.g1 hg0 (sq_greedyFor w_q1 I (by omega))) (by decide) rfl ?_
          refine E_istore (L2 := [some (.ref 0), some (.int (nI 0)), some (.int (nI v)), some (.int (nI B0)), some (.int (nI gj0)), x5, x6]) at_X5_fails_59 rfl ?_
          refine E_iload_n at_X5_fails_61 rfl ?_
          refine E_iconst (x := (-1)) at_X5_fails_62 (by decide) ?_
          refine E_ic (t := 76) (b := false) at_X5_fails_63 rfl ((cn_eq (nI_toInt (by omega)) (by decide : (-1 : Int32).toInt = -1)).trans (decide_eq_false (by omega))) ?_
          refine E_iload at_X5_fails_66 rfl ?_
          refine E_iconst (x := (-1)) at_X5_fails_68 (by decide) ?_
          refine E_ic (t := 76) (b := true) at_X5_fails_69 rfl ((cn_ne (nI_toInt (by omega)) (by decide : (-1 : Int32).toInt = -1)).trans (decide_eq_true (by omega))) ?_
          refine E_iconst (x := nI 0) at_X5_fails_76 (by decide) ?_
          refine E_istore (L2 := [some (.ref 0), some (.int (nI 0)), some (.int (nI v)), some (.int (nI B0)), some (.int (nI gj0)), some (.int (nI 0)), x6]) at_X5_fails_77 rfl ?_
          refine E_iload at_X5_fails_79 rfl ?_
          refine E_iconst (x := (-1)) at_X5_fails_81 (by decide) ?_
          refine E_ic (t := 101) (b := false) at_X5_fails_82 rfl ((cn_eq (nI_toInt (by omega)) (by decide : (-1 : Int32).toInt = -1)).trans (decide_eq_false (by omega))) ?_
          refine E_iload at_X5_fails_85 rfl ?_
          refine E_callS (v := some (.int (nI (qMany gj0 9)))) (As := [.int (nI gj0)]) (r0 := []) (cs2 := (ww im lf s d k (lsF (wgh s m (qN s))) rf rz ra rn rq lt m1 m2 m3 m4 bd fc hd sz el t g fm hm so si sh ce ca td wa kp la bf oo bo pw ow tr)) at_X5_fails_87 rfl rfl (Nat.le_of_ble_eq_true rfl) rfl (w_bc (by omega)) (by decide) rfl ?_
          refine E_iload_n at_X5_fails_90 rfl ?_
          refine E_callS (v := some (.int (nI (qMany B0 9)))) (As := [.int (nI B0)]) (r0 := [.int (nI (qMany gj0 9))]) (cs2 := (ww im lf s d k (lsF (wgh s m (qN s))) rf rz ra rn rq lt m1 m2 m3 m4 bd fc hd sz el t g fm hm so si sh ce ca td wa kp la bf oo bo pw ow tr)) at_X5_fails_91 rfl rfl (Nat.le_of_ble_eq_true rfl) rfl (w_bc (by omega)) (by decide) rfl ?_
          refine E_ic (t := 101) (b := false) at_X5_fails_94 rfl ((cn_le (nI_toInt (by omega)) (nI_toInt (by omega))).trans (decide_eq_false (by omega))) ?_
          refine E_iconst (x := nI 1) rfl (by decide) ?_
          refine E_goto (t := 102) rfl rfl ?_
          refine E_istore (L2 := [some (.ref 0), some (.int (nI 0)), some (.int (nI v)), some (.int (nI B0)), some (.int (nI gj0)), some (.int (nI 0)), some (.int (nI 1))]) at_X5_fails_102 rfl ?_
          refine E_iload_n at_X5_fails_104 rfl ?_
          refine E_if (t := 116) (b := false) at_X5_fails_105 rfl (by decide) ?_
          refine E_iload at_X5_fails_108 rfl ?_
          refine E_if (t := 123) (b := true) at_X5_fails_110 rfl (by decide) ?_
          refine E_iinc (y := nI (v + 1)) (L2 := [some (.ref 0), some (.int (nI 0)), some (.int (nI (v + 1))), some (.int (nI B0)), some (.int (nI gj0)), some (.int (nI 0)), some (.int (nI 1))]) at_X5_fails_123 rfl (nI_1 _) rfl ?_
          refine E_goto (t := 36) at_X5_fails_126 rfl ?_
          exact ih (v + 1) _ _ _ _ (by omega) (by omega)
        · have w9 : 2 ^ qN s ≤ 2 ^ 9 := Nat.pow_le_pow_right (by decide) (by omega)
          have := lsF_len (wgh s m (qN s))
          have kb0 := kAt_bits I hB0
          have hh0 : gj0 + 1 ≤ 512 := hg0 ▸ qGr_512 I v
          have := qMany_in gj0 9
          have := qMany_in B0 9
          have hp : ¬ flP0 s m v = true := by exact fun z => absurd (of_decide_eq_true z).2 (by rw [hg0]; omega)
          rw [fst_f hp]
          refine E_iload_n at_X5_fails_36 rfl ?_
          refine E_bipush (x := nI 100) at_X5_fails_37 (by decide) ?_
          refine E_ic (t := 129) (b := false) at_X5_fails_39 rfl ((cn_ge (nI_toInt (by omega)) (nI_toInt (by omega))).trans (decide_eq_false (by omega))) ?_
          refine E_aload_n at_X5_fails_42 rfl ?_
          refine E_getfield (v := .ref 32) at_X5_fails_43 w0 rfl (by decide) rfl ?_
          refine E_iload_n at_X5_fails_46 rfl ?_
          have e2 : Ev ab_Z0 2 4 [.ref 32, .int (nI v)] (ww im lf s d k (lsF (wgh s m (qN s))) rf rz ra rn rq lt m1 m2 m3 m4 bd fc hd sz el t g fm hm so si sh ce ca td wa kp la bf oo bo pw ow tr) (some (.int (nI B0)), (ww im lf s d k (lsF (wgh s m (qN s))) rf rz ra rn rq lt m1 m2 m3 m4 bd fc hd sz el t g fm hm so si sh ce ca td wa kp la bf oo bo pw ow tr)) := by
            refine Ef.in (md := mX0_fewestFor) (L := [some (.ref 32), some (.int (nI v))]) rfl (Nat.le_of_ble_eq_true rfl) rfl ?_
            refine E_iload_n at_X0_fewestFor_0 rfl ?_
            have e1 : Ev ab_Z0 1 48 [.int (nI v)] (ww im lf s d k (lsF (wgh s m (qN s))) rf rz ra rn rq lt m1 m2 m3 m4 bd fc hd sz el t g fm hm so si sh ce ca td wa kp la bf oo bo pw ow tr) (some (.int (nI 1)), (ww im lf s d k (lsF (wgh s m (qN s))) rf rz ra rn rq lt m1 m2 m3 m4 bd fc hd sz el t g fm hm so si sh ce ca td wa kp la bf oo bo pw ow tr)) := by
              refine Ef.in (md := mX4_isAmount) (L := [some (.int (nI v))]) rfl (Nat.le_of_ble_eq_true rfl) rfl ?_
              refine E_iload_n at_X4_isAmount_0 rfl ?_
              refine E_if (t := 14) (b := false) at_X4_isAmount_1 rfl ((cn_lt (nI_toInt (by omega)) (by decide : (0 : Int32).toInt = 0)).trans (decide_eq_false (by omega))) ?_
              refine E_iload_n at_X4_isAmount_4 rfl ?_
              refine E_bipush (x := nI 100) at_X4_isAmount_5 (by decide) ?_
              refine E_ic (t := 14) (b := false) at_X4_isAmount_7 rfl ((cn_ge (nI_toInt (by omega)) (nI_toInt (by omega))).trans (decide_eq_false (by omega))) ?_
              refine E_iconst (x := nI 1) at_X4_isAmount_10 (by decide) ?_
              refine E_goto (t := 15) at_X4_isAmount_11 rfl ?_
              exact E_iret at_X4_isAmount_15 rfl
            refine E_callS (v := some (.int (nI 1))) (As := [.int (nI v)]) (r0 := []) (cs2 := (ww im lf s d k (lsF (wgh s m (qN s))) rf rz ra rn rq lt m1 m2 m3 m4 bd fc hd sz el t g fm hm so si sh ce ca td wa kp la bf oo bo pw ow tr)) at_X0_fewestFor_1 rfl rfl (Nat.le_of_ble_eq_true rfl) rfl e1 (by decide) rfl ?_
            refine E_if (t := 17) (b := false) at_X0_fewestFor_4 rfl (by decide) ?_
            refine E_aload_n at_X0_fewestFor_7 rfl ?_
            refine E_getfield (v := .ref 33) at_X0_fewestFor_8 w32 rfl (by decide) rfl ?_
            refine E_iload_n at_X0_fewestFor_11 rfl ?_
            refine E_ialI (l := (lsF (wgh s m (qN s)))) (v := nI (kAt s B0 (qN s))) at_X0_fewestFor_12 w33 (by omega) (by omega) (by rw [lsF_get (by omega), hk0]; exact qE_s _) ?_
            refine E_iconst (x := (-1)) at_X0_fewestFor_13 (by decide) ?_
            refine E_ic (t := 19) (b := true) at_X0_fewestFor_14 rfl ((cn_ne (nI_toInt (by omega)) (by decide : (-1 : Int32).toInt = -1)).trans (decide_eq_true (by omega))) ?_
            refine E_aload_n at_X0_fewestFor_19 rfl ?_
            refine E_getfield (v := .ref 33) at_X0_fewestFor_20 w32 rfl (by decide) rfl ?_
            refine E_iload_n at_X0_fewestFor_23 rfl ?_
            refine E_ialI (l := (lsF (wgh s m (qN s)))) (v := nI (kAt s B0 (qN s))) at_X0_fewestFor_24 w33 (by omega) (by omega) (by rw [lsF_get (by omega), hk0]; exact qE_s _) ?_
            refine E_sipush (x := nI 1023) at_X0_fewestFor_25 (by decide) ?_
            refine E_iand (z := nI B0) at_X0_fewestFor_28 (kAt_and I hB0) ?_
            exact E_iret at_X0_fewestFor_29 rfl
          refine E_callV (v := some (.int (nI B0))) (As := [.ref 32, .int (nI v)]) (r0 := []) (cs2 := (ww im lf s d k (lsF (wgh s m (qN s))) rf rz ra rn rq lt m1 m2 m3 m4 bd fc hd sz el t g fm hm so si sh ce ca td wa kp la bf oo bo pw ow tr)) at_X5_fails_47 rfl rfl (Nat.le_of_ble_eq_true rfl) rfl (ab_rvOf w32 rfl) e2 (by decide) rfl ?_
          refine E_istore_n (L2 := [some (.ref 0), some (.int (nI 0)), some (.int (nI v)), some (.int (nI B0)), x4, x5, x6]) at_X5_fails_50 rfl ?_
          refine E_aload_n at_X5_fails_51 rfl ?_
          refine E_getfield (v := .ref 1) at_X5_fails_52 w0 rfl (by decide) rfl ?_
          refine E_iload_n at_X5_fails_55 rfl ?_
          refine E_callV (v := some (.int (nI gj0))) (As := [.ref 1, .int (nI v)]) (r0 := []) (cs2 := (ww im lf s d k (lsF (wgh s m (qN s))) rf rz ra rn rq lt m1 m2 m3 m4 bd fc hd sz el t g fm hm so si sh ce ca td wa kp la bf oo bo pw ow tr)) at_X5_fails_56 rfl rfl (Nat.le_of_ble_eq_true rfl) rfl (ab_rvOf w1 rfl) (Ev.g1 hg0 (sq_greedyFor w_q1 I (by omega))) (by decide) rfl ?_
          refine E_istore (L2 := [some (.ref 0), some (.int (nI 0)), some (.int (nI v)), some (.int (nI B0)), some (.int (nI gj0)), x5, x6]) at_X5_fails_59 rfl ?_
          refine E_iload_n at_X5_fails_61 rfl ?_
          refine E_iconst (x := (-1)) at_X5_fails_62 (by decide) ?_
          refine E_ic (t := 76) (b := false) at_X5_fails_63 rfl ((cn_eq (nI_toInt (by omega)) (by decide : (-1 : Int32).toInt = -1)).trans (decide_eq_false (by omega))) ?_
          refine E_iload at_X5_fails_66 rfl ?_
          refine E_iconst (x := (-1)) at_X5_fails_68 (by decide) ?_
          refine E_ic (t := 76) (b := true) at_X5_fails_69 rfl ((cn_ne (nI_toInt (by omega)) (by decide : (-1 : Int32).toInt = -1)).trans (decide_eq_true (by omega))) ?_
          refine E_iconst (x := nI 0) at_X5_fails_76 (by decide) ?_
          refine E_istore (L2 := [some (.ref 0), some (.int (nI 0)), some (.int (nI v)), some (.int (nI B0)), some (.int (nI gj0)), some (.int (nI 0)), x6]) at_X5_fails_77 rfl ?_
          refine E_iload at_X5_fails_79 rfl ?_
          refine E_iconst (x := (-1)) at_X5_fails_81 (by decide) ?_
          refine E_ic (t := 101) (b := false) at_X5_fails_82 rfl ((cn_eq (nI_toInt (by omega)) (by decide : (-1 : Int32).toInt = -1)).trans (decide_eq_false (by omega))) ?_
          refine E_iload at_X5_fails_85 rfl ?_
          refine E_callS (v := some (.int (nI (qMany gj0 9)))) (As := [.int (nI gj0)]) (r0 := []) (cs2 := (ww im lf s d k (lsF (wgh s m (qN s))) rf rz ra rn rq lt m1 m2 m3 m4 bd fc hd sz el t g fm hm so si sh ce ca td wa kp la bf oo bo pw ow tr)) at_X5_fails_87 rfl rfl (Nat.le_of_ble_eq_true rfl) rfl (w_bc (by omega)) (by decide) rfl ?_
          refine E_iload_n at_X5_fails_90 rfl ?_
          refine E_callS (v := some (.int (nI (qMany B0 9)))) (As := [.int (nI B0)]) (r0 := [.int (nI (qMany gj0 9))]) (cs2 := (ww im lf s d k (lsF (wgh s m (qN s))) rf rz ra rn rq lt m1 m2 m3 m4 bd fc hd sz el t g fm hm so si sh ce ca td wa kp la bf oo bo pw ow tr)) at_X5_fails_91 rfl rfl (Nat.le_of_ble_eq_true rfl) rfl (w_bc (by omega)) (by decide) rfl ?_
          refine E_ic (t := 101) (b := true) at_X5_fails_94 rfl ((cn_le (nI_toInt (by omega)) (nI_toInt (by omega))).trans (decide_eq_true (by omega))) ?_
          refine E_iconst (x := nI 0) at_X5_fails_101 (by decide) ?_
          refine E_istore (L2 := [some (.ref 0), some (.int (nI 0)), some (.int (nI v)), some (.int (nI B0)), some (.int (nI gj0)), some (.int (nI 0)), some (.int (nI 0))]) at_X5_fails_102 rfl ?_
          refine E_iload_n at_X5_fails_104 rfl ?_
          refine E_if (t := 116) (b := false) at_X5_fails_105 rfl (by decide) ?_
          refine E_iload at_X5_fails_108 rfl ?_
          refine E_if (t := 123) (b := true) at_X5_fails_110 rfl (by decide) ?_
          refine E_iinc (y := nI (v + 1)) (L2 := [some (.ref 0), some (.int (nI 0)), some (.int (nI (v + 1))), some (.int (nI B0)), some (.int (nI gj0)), some (.int (nI 0)), some (.int (nI 0))]) at_X5_fails_123 rfl (nI_1 _) rfl ?_
          refine E_goto (t := 36) at_X5_fails_126 rfl ?_
          exact ih (v + 1) _ _ _ _ (by omega) (by omega)
set_option maxHeartbeats 1000000 in
theorem fl_m0 {m : Nat} (I : qI t) : ∀ n0 v (x3 : Option Value), v + n0 = 100 → 1 ≤ v → Ef ab_Z0 3 mX6_fails (28, [some (.ref 65), some (.int (nI 0)), some (.int (nI v)), x3], [], (ww im lf s d k ls rf rz ra rn rq lt m1 m2 m3 m4 bd fc hd sz el t g fm hm so si sh ce ca td wa kp la (lsF (bst t m (qN t) (2 ^ qN t))) oo bo pw ow tr)) (some (.int (fstP (flP0 t m) n0 v)), (ww im lf s d k ls rf rz ra rn rq lt m1 m2 m3 m4 bd fc hd sz el t g fm hm so si sh ce ca td wa kp la (lsF (bst t m (qN t) (2 ^ qN t))) oo bo pw ow tr)) := by
  have h9 := I.2.2.1.1
  intro n0
  induction n0 with
  | zero =>
    intro v x3 hi hv
    have hi : v = 100 := by omega
    rw [hi]
    have w9 : 2 ^ qN t ≤ 2 ^ 9 := Nat.pow_le_pow_right (by decide) (by omega)
    refine E_iload_n at_X6_fails_28 rfl ?_
    refine E_bipush (x := nI 100) at_X6_fails_29 (by decide) ?_
    refine E_ic (t := 96) (b := true) at_X6_fails_31 rfl (by decide) ?_
    refine E_iconst (x := (-1)) rfl (by decide) ?_
    exact E_iret rfl rfl
  | succ n0 ih =>
    intro v x3 hi hv
    rcases wgh_bst t m (qN t) v with ⟨eb0, fb0⟩ | ⟨B0, hB0, hs0, hw0, hb0, hk0⟩
    · have w9 : 2 ^ qN t ≤ 2 ^ 9 := Nat.pow_le_pow_right (by decide) (by omega)
      have := lsF_len (bst t m (qN t) (2 ^ qN t))
      have hp : ¬ flP0 t m v = true := by exact fun z => (of_decide_eq_true z).1 fb0
      rw [fst_f hp]
      refine E_iload_n at_X6_fails_28 rfl ?_
      refine E_bipush (x := nI 100) at_X6_fails_29 (by decide) ?_
      refine E_ic (t := 96) (b := false) at_X6_fails_31 rfl ((cn_ge (nI_toInt (by omega)) (nI_toInt (by omega))).trans (decide_eq_false (by omega))) ?_
      refine E_aload_n at_X6_fails_34 rfl ?_
      refine E_getfield (v := .ref 89) at_X6_fails_35 w65 rfl (by decide) rfl ?_
      refine E_iload_n at_X6_fails_38 rfl ?_
      refine E_ialI (l := (lsF (bst t m (qN t) (2 ^ qN t)))) (v := (-1)) at_X6_fails_39 w89 (by omega) (by omega) (by rw [lsF_get (by omega), fb0]; rfl) ?_
      refine E_iconst (x := (-1)) at_X6_fails_40 (by decide) ?_
      refine E_ic (t := 47) (b := false) at_X6_fails_41 rfl (by decide) ?_
      refine E_goto (t := 90) rfl rfl ?_
      refine E_iinc (y := nI (v + 1)) (L2 := [some (.ref 65), some (.int (nI 0)), some (.int (nI (v + 1))), x3]) at_X6_fails_90 rfl (nI_1 _) rfl ?_
      refine E_goto (t := 28) at_X6_fails_93 rfl ?_
      exact ih (v + 1) _ (by omega) (by omega)
    · rcases hg0 : qGreedy t v with _ | gj0
      · have w9 : 2 ^ qN t ≤ 2 ^ 9 := Nat.pow_le_pow_right (by decide) (by omega)
        have := lsF_len (bst t m (qN t) (2 ^ qN t))
        have hp : flP0 t m v = true := by exact decide_eq_true ⟨by rw [hb0]; omega, hg0⟩
        rw [fst_t hp]
        refine E_iload_n at_X6_fails_28 rfl ?_
        refine E_bipush (x := nI 100) at_X6_fails_29 (by decide) ?_
        refine E_ic (t := 96) (b := false) at_X6_fails_31 rfl ((cn_ge (nI_toInt (by omega)) (nI_toInt (by omega))).trans (decide_eq_false (by omega))) ?_
        refine E_aload_n at_X6_fails_34 rfl ?_
        refine E_getfield (v := .ref 89) at_X6_fails_35 w65 rfl (by decide) rfl ?_
        refine E_iload_n at_X6_fails_38 rfl ?_
        refine E_ialI (l := (lsF (bst t m (qN t) (2 ^ qN t)))) (v := nI B0) at_X6_fails_39 w89 (by omega) (by omega) (by rw [lsF_get (by omega), hb0]; rfl) ?_
        refine E_iconst (x := (-1)) at_X6_fails_40 (by decide) ?_
        refine E_ic (t := 47) (b := true) at_X6_fails_41 rfl ((cn_ne (nI_toInt (by omega)) (by decide : (-1 : Int32).toInt = -1)).trans (decide_eq_true (by omega))) ?_
        refine E_aload_n at_X6_fails_47 rfl ?_
        refine E_iload_n at_X6_fails_48 rfl ?_
        refine E_callV (v := some (.int (-1))) (As := [.ref 65, .int (nI v)]) (r0 := []) (cs2 := (ww im lf s d k ls rf rz ra rn rq lt m1 m2 m3 m4 bd fc hd sz el t g fm hm so si sh ce ca td wa kp la (lsF (bst t m (qN t) (2 ^ qN t))) oo bo pw ow tr)) at_X6_fails_49 rfl rfl (Nat.le_of_ble_eq_true rfl) rfl (ab_rvOf w65 rfl) (Ev.g0 hg0 (mo_greedyFor w_m I (by omega))) (by decide) rfl ?_
        refine E_istore_n (L2 := [some (.ref 65), some (.int (nI 0)), some (.int (nI v)), some (.int (-1))]) at_X6_fails_52 rfl ?_
        refine E_iload_n at_X6_fails_53 rfl ?_
        refine E_if (t := 65) (b := false) at_X6_fails_54 rfl (by decide) ?_
        refine E_iload_n rfl rfl ?_
        refine E_iconst (x := (-1)) rfl (by decide) ?_
        refine E_ic (t := 90) (b := false) rfl rfl (by decide) ?_
        refine E_goto (t := 88) rfl rfl ?_
        refine E_iload_n rfl rfl ?_
        exact E_iret rfl rfl
      · have w9 : 2 ^ qN t ≤ 2 ^ 9 := Nat.pow_le_pow_right (by decide) (by omega)
        have := lsF_len (bst t m (qN t) (2 ^ qN t))
        have hh0 : gj0 + 1 ≤ 512 := hg0 ▸ qGr_512 I v
        have hp : ¬ flP0 t m v = true := by exact fun z => absurd (of_decide_eq_true z).2 (by rw [hg0]; omega)
        rw [fst_f hp]
        refine E_iload_n at_X6_fails_28 rfl ?_
        refine E_bipush (x := nI 100) at_X6_fails_29 (by decide) ?_
        refine E_ic (t := 96) (b := false) at_X6_fails_31 rfl ((cn_ge (nI_toInt (by omega)) (nI_toInt (by omega))).trans (decide_eq_false (by omega))) ?_
        refine E_aload_n at_X6_fails_34 rfl ?_
        refine E_getfield (v := .ref 89) at_X6_fails_35 w65 rfl (by decide) rfl ?_
        refine E_iload_n at_X6_fails_38 rfl ?_
        refine E_ialI (l := (lsF (bst t m (qN t) (2 ^ qN t)))) (v := nI B0) at_X6_fails_39 w89 (by omega) (by omega) (by rw [lsF_get (by omega), hb0]; rfl) ?_
        refine E_iconst (x := (-1)) at_X6_fails_40 (by decide) ?_
        refine E_ic (t := 47) (b := true) at_X6_fails_41 rfl ((cn_ne (nI_toInt (by omega)) (by decide : (-1 : Int32).toInt = -1)).trans (decide_eq_true (by omega))) ?_
        refine E_aload_n at_X6_fails_47 rfl ?_
        refine E_iload_n at_X6_fails_48 rfl ?_
        refine E_callV (v := some (.int (nI gj0))) (As := [.ref 65, .int (nI v)]) (r0 := []) (cs2 := (ww im lf s d k ls rf rz ra rn rq lt m1 m2 m3 m4 bd fc hd sz el t g fm hm so si sh ce ca td wa kp la (lsF (bst t m (qN t) (2 ^ qN t))) oo bo pw ow tr)) at_X6_fails_49 rfl rfl (Nat.le_of_ble_eq_true rfl) rfl (ab_rvOf w65 rfl) (Ev.g1 hg0 (mo_greedyFor w_m I (by omega))) (by decide) rfl ?_
        refine E_istore_n (L2 := [some (.ref 65), some (.int (nI 0)), some (.int (nI v)), some (.int (nI gj0))]) at_X6_fails_52 rfl ?_
        refine E_iload_n at_X6_fails_53 rfl ?_
        refine E_if (t := 65) (b := false) at_X6_fails_54 rfl (by decide) ?_
        refine E_iload_n rfl rfl ?_
        refine E_iconst (x := (-1)) rfl (by decide) ?_
        refine E_ic (t := 90) (b := true) rfl rfl ((cn_ne (nI_toInt (by omega)) (by decide : (-1 : Int32).toInt = -1)).trans (decide_eq_true (by omega))) ?_
        refine E_iinc (y := nI (v + 1)) (L2 := [some (.ref 65), some (.int (nI 0)), some (.int (nI (v + 1))), some (.int (nI gj0))]) at_X6_fails_90 rfl (nI_1 _) rfl ?_
        refine E_goto (t := 28) at_X6_fails_93 rfl ?_
        exact ih (v + 1) _ (by omega) (by omega)
set_option maxHeartbeats 1000000 in
theorem fl_c1 {m : Nat} (I : qI s) : ∀ n0 v (x3 x4 x5 x6 : Option Value), v + n0 = 100 → 1 ≤ v → Ef ab_Z0 3 mX5_fails (36, [some (.ref 0), some (.int (nI 1)), some (.int (nI v)), x3, x4, x5, x6], [], (ww im lf s d k (lsF (wgh s m (qN s))) rf rz ra rn rq lt m1 m2 m3 m4 bd fc hd sz el t g fm hm so si sh ce ca td wa kp la bf oo bo pw ow tr)) (some (.int (fstP (flP1 s m) n0 v)), (ww im lf s d k (lsF (wgh s m (qN s))) rf rz ra rn rq lt m1 m2 m3 m4 bd fc hd sz el t g fm hm so si sh ce ca td wa kp la bf oo bo pw ow tr)) := by
  have h9 := I.2.2.1.1
  intro n0
  induction n0 with
  | zero =>
    intro v x3 x4 x5 x6 hi hv
    have hi : v = 100 := by omega
    rw [hi]
    have w9 : 2 ^ qN s ≤ 2 ^ 9 := Nat.pow_le_pow_right (by decide) (by omega)
    refine E_iload_n at_X5_fails_36 rfl ?_
    refine E_bipush (x := nI 100) at_X5_fails_37 (by decide) ?_
    refine E_ic (t := 129) (b := true) at_X5_fails_39 rfl (by decide) ?_
    refine E_iconst (x := (-1)) rfl (by decide) ?_
    exact E_iret rfl rfl
  | succ n0 ih =>
    intro v x3 x4 x5 x6 hi hv
    rcases wgh_bst s m (qN s) v with ⟨eb0, fb0⟩ | ⟨B0, hB0, hs0, hw0, hb0, hk0⟩
    · rcases hg0 : qGreedy s v with _ | gj0
      · have w9 : 2 ^ qN s ≤ 2 ^ 9 := Nat.pow_le_pow_right (by decide) (by omega)
        have := lsF_len (wgh s m (qN s))
        have hp : ¬ flP1 s m v = true := by exact fun z => (of_decide_eq_true z).1 fb0
        rw [fst_f hp]
        refine E_iload_n at_X5_fails_36 rfl ?_
        refine E_bipush (x := nI 100) at_X5_fails_37 (by decide) ?_
        refine E_ic (t := 129) (b := false) at_X5_fails_39 rfl ((cn_ge (nI_toInt (by omega)) (nI_toInt (by omega))).trans (decide_eq_false (by omega))) ?_
        refine E_aload_n at_X5_fails_42 rfl ?_
        refine E_getfield (v := .ref 32) at_X5_fails_43 w0 rfl (by decide) rfl ?_
        refine E_iload_n at_X5_fails_46 rfl ?_
        have e2 : Ev ab_Z0 2 4 [.ref 32, .int (nI v)] (ww im lf s d k (lsF (wgh s m (qN s))) rf rz ra rn rq lt m1 m2 m3 m4 bd fc hd sz el t g fm hm so si sh ce ca td wa kp la bf oo bo pw ow tr) (some (.int (-1)), (ww im lf s d k (lsF (wgh s m (qN s))) rf rz ra rn rq lt m1 m2 m3 m4 bd fc hd sz el t g fm hm so si sh ce ca td wa kp la bf oo bo pw ow tr)) := by
          refine Ef.in (md := mX0_fewestFor) (L := [some (.ref 32), some (.int (nI v))]) rfl (Nat.le_of_ble_eq_true rfl) rfl ?_
          refine E_iload_n at_X0_fewestFor_0 rfl ?_
          have e1 : Ev ab_Z0 1 48 [.int (nI v)] (ww im lf s d k (lsF (wgh s m (qN s))) rf rz ra rn rq lt m1 m2 m3 m4 bd fc hd sz el t g fm hm so si sh ce ca td wa kp la bf oo bo pw ow tr) (some (.int (nI 1)), (ww im lf s d k (lsF (wgh s m (qN s))) rf rz ra rn rq lt m1 m2 m3 m4 bd fc hd sz el t g fm hm so si sh ce ca td wa kp la bf oo bo pw ow tr)) := by
            refine Ef.in (md := mX4_isAmount) (L := [some (.int (nI v))]) rfl (Nat.le_of_ble_eq_true rfl) rfl ?_
            refine E_iload_n at_X4_isAmount_0 rfl ?_
            refine E_if (t := 14) (b := false) at_X4_isAmount_1 rfl ((cn_lt (nI_toInt (by omega)) (by decide : (0 : Int32).toInt = 0)).trans (decide_eq_false (by omega))) ?_
            refine E_iload_n at_X4_isAmount_4 rfl ?_
            refine E_bipush (x := nI 100) at_X4_isAmount_5 (by decide) ?_
            refine E_ic (t := 14) (b := false) at_X4_isAmount_7 rfl ((cn_ge (nI_toInt (by omega)) (nI_toInt (by omega))).trans (decide_eq_false (by omega))) ?_
            refine E_iconst (x := nI 1) at_X4_isAmount_10 (by decide) ?_
            refine E_goto (t := 15) at_X4_isAmount_11 rfl ?_
            exact E_iret at_X4_isAmount_15 rfl
          refine E_callS (v := some (.int (nI 1))) (As := [.int (nI v)]) (r0 := []) (cs2 := (ww im lf s d k (lsF (wgh s m (qN s))) rf rz ra rn rq lt m1 m2 m3 m4 bd fc hd sz el t g fm hm so si sh ce ca td wa kp la bf oo bo pw ow tr)) at_X0_fewestFor_1 rfl rfl (Nat.le_of_ble_eq_true rfl) rfl e1 (by decide) rfl ?_
          refine E_if (t := 17) (b := false) at_X0_fewestFor_4 rfl (by decide) ?_
          refine E_aload_n at_X0_fewestFor_7 rfl ?_
          refine E_getfield (v := .ref 33) at_X0_fewestFor_8 w32 rfl (by decide) rfl ?_
          refine E_iload_n at_X0_fewestFor_11 rfl ?_
          refine E_ialI (l := (lsF (wgh s m (qN s)))) (v := (-1)) at_X0_fewestFor_12 w33 (by omega) (by omega) (by rw [lsF_get (by omega), eb0]; rfl) ?_
          refine E_iconst (x := (-1)) at_X0_fewestFor_13 (by decide) ?_
          refine E_ic (t := 19) (b := false) at_X0_fewestFor_14 rfl (by decide) ?_
          refine E_iconst (x := (-1)) at_X0_fewestFor_17 (by decide) ?_
          exact E_iret at_X0_fewestFor_18 rfl
        refine E_callV (v := some (.int (-1))) (As := [.ref 32, .int (nI v)]) (r0 := []) (cs2 := (ww im lf s d k (lsF (wgh s m (qN s))) rf rz ra rn rq lt m1 m2 m3 m4 bd fc hd sz el t g fm hm so si sh ce ca td wa kp la bf oo bo pw ow tr)) at_X5_fails_47 rfl rfl (Nat.le_of_ble_eq_true rfl) rfl (ab_rvOf w32 rfl) e2 (by decide) rfl ?_
        refine E_istore_n (L2 := [some (.ref 0), some (.int (nI 1)), some (.int (nI v)), some (.int (-1)), x4, x5, x6]) at_X5_fails_50 rfl ?_
        refine E_aload_n at_X5_fails_51 rfl ?_
        refine E_getfield (v := .ref 1) at_X5_fails_52 w0 rfl (by decide) rfl ?_
        refine E_iload_n at_X5_fails_55 rfl ?_
        refine E_callV (v := some (.int (-1))) (As := [.ref 1, .int (nI v)]) (r0 := []) (cs2 := (ww im lf s d k (lsF (wgh s m (qN s))) rf rz ra rn rq lt m1 m2 m3 m4 bd fc hd sz el t g fm hm so si sh ce ca td wa kp la bf oo bo pw ow tr)) at_X5_fails_56 rfl rfl (Nat.le_of_ble_eq_true rfl) rfl (ab_rvOf w1 rfl) (Ev.g0 hg0 (sq_greedyFor w_q1 I (by omega))) (by decide) rfl ?_
        refine E_istore (L2 := [some (.ref 0), some (.int (nI 1)), some (.int (nI v)), some (.int (-1)), some (.int (-1)), x5, x6]) at_X5_fails_59 rfl ?_
        refine E_iload_n at_X5_fails_61 rfl ?_
        refine E_iconst (x := (-1)) at_X5_fails_62 (by decide) ?_
        refine E_ic (t := 76) (b := true) at_X5_fails_63 rfl (by decide) ?_
        refine E_iconst (x := nI 0) at_X5_fails_76 (by decide) ?_
        refine E_istore (L2 := [some (.ref 0), some (.int (nI 1)), some (.int (nI v)), some (.int (-1)), some (.int (-1)), some (.int (nI 0)), x6]) at_X5_fails_77 rfl ?_
        refine E_iload at_X5_fails_79 rfl ?_
        refine E_iconst (x := (-1)) at_X5_fails_81 (by decide) ?_
        refine E_ic (t := 101) (b := true) at_X5_fails_82 rfl (by decide) ?_
        refine E_iconst (x := nI 0) at_X5_fails_101 (by decide) ?_
        refine E_istore (L2 := [some (.ref 0), some (.int (nI 1)), some (.int (nI v)), some (.int (-1)), some (.int (-1)), some (.int (nI 0)), some (.int (nI 0))]) at_X5_fails_102 rfl ?_
        refine E_iload_n at_X5_fails_104 rfl ?_
        refine E_if (t := 116) (b := true) at_X5_fails_105 rfl (by decide) ?_
        refine E_iload at_X5_fails_116 rfl ?_
        refine E_if (t := 123) (b := true) at_X5_fails_118 rfl (by decide) ?_
        refine E_iinc (y := nI (v + 1)) (L2 := [some (.ref 0), some (.int (nI 1)), some (.int (nI (v + 1))), some (.int (-1)), some (.int (-1)), some (.int (nI 0)), some (.int (nI 0))]) at_X5_fails_123 rfl (nI_1 _) rfl ?_
        refine E_goto (t := 36) at_X5_fails_126 rfl ?_
        exact ih (v + 1) _ _ _ _ (by omega) (by omega)
      · have w9 : 2 ^ qN s ≤ 2 ^ 9 := Nat.pow_le_pow_right (by decide) (by omega)
        have := lsF_len (wgh s m (qN s))
        have hh0 : gj0 + 1 ≤ 512 := hg0 ▸ qGr_512 I v
        have := qMany_in gj0 9
        have hp : ¬ flP1 s m v = true := by exact fun z => (of_decide_eq_true z).1 fb0
        rw [fst_f hp]
        refine E_iload_n at_X5_fails_36 rfl ?_
        refine E_bipush (x := nI 100) at_X5_fails_37 (by decide) ?_
        refine E_ic (t := 129) (b := false) at_X5_fails_39 rfl ((cn_ge (nI_toInt (by omega)) (nI_toInt (by omega))).trans (decide_eq_false (by omega))) ?_
        refine E_aload_n at_X5_fails_42 rfl ?_
        refine E_getfield (v := .ref 32) at_X5_fails_43 w0 rfl (by decide) rfl ?_
        refine E_iload_n at_X5_fails_46 rfl ?_
        have e2 : Ev ab_Z0 2 4 [.ref 32, .int (nI v)] (ww im lf s d k (lsF (wgh s m (qN s))) rf rz ra rn rq lt m1 m2 m3 m4 bd fc hd sz el t g fm hm so si sh ce ca td wa kp la bf oo bo pw ow tr) (some (.int (-1)), (ww im lf s d k (lsF (wgh s m (qN s))) rf rz ra rn rq lt m1 m2 m3 m4 bd fc hd sz el t g fm hm so si sh ce ca td wa kp la bf oo bo pw ow tr)) := by
          refine Ef.in (md := mX0_fewestFor) (L := [some (.ref 32), some (.int (nI v))]) rfl (Nat.le_of_ble_eq_true rfl) rfl ?_
          refine E_iload_n at_X0_fewestFor_0 rfl ?_
          have e1 : Ev ab_Z0 1 48 [.int (nI v)] (ww im lf s d k (lsF (wgh s m (qN s))) rf rz ra rn rq lt m1 m2 m3 m4 bd fc hd sz el t g fm hm so si sh ce ca td wa kp la bf oo bo pw ow tr) (some (.int (nI 1)), (ww im lf s d k (lsF (wgh s m (qN s))) rf rz ra rn rq lt m1 m2 m3 m4 bd fc hd sz el t g fm hm so si sh ce ca td wa kp la bf oo bo pw ow tr)) := by
            refine Ef.in (md := mX4_isAmount) (L := [some (.int (nI v))]) rfl (Nat.le_of_ble_eq_true rfl) rfl ?_
            refine E_iload_n at_X4_isAmount_0 rfl ?_
            refine E_if (t := 14) (b := false) at_X4_isAmount_1 rfl ((cn_lt (nI_toInt (by omega)) (by decide : (0 : Int32).toInt = 0)).trans (decide_eq_false (by omega))) ?_
            refine E_iload_n at_X4_isAmount_4 rfl ?_
            refine E_bipush (x := nI 100) at_X4_isAmount_5 (by decide) ?_
            refine E_ic (t := 14) (b := false) at_X4_isAmount_7 rfl ((cn_ge (nI_toInt (by omega)) (nI_toInt (by omega))).trans (decide_eq_false (by omega))) ?_
            refine E_iconst (x := nI 1) at_X4_isAmount_10 (by decide) ?_
            refine E_goto (t := 15) at_X4_isAmount_11 rfl ?_
            exact E_iret at_X4_isAmount_15 rfl
          refine E_callS (v := some (.int (nI 1))) (As := [.int (nI v)]) (r0 := []) (cs2 := (ww im lf s d k (lsF (wgh s m (qN s))) rf rz ra rn rq lt m1 m2 m3 m4 bd fc hd sz el t g fm hm so si sh ce ca td wa kp la bf oo bo pw ow tr)) at_X0_fewestFor_1 rfl rfl (Nat.le_of_ble_eq_true rfl) rfl e1 (by decide) rfl ?_
          refine E_if (t := 17) (b := false) at_X0_fewestFor_4 rfl (by decide) ?_
          refine E_aload_n at_X0_fewestFor_7 rfl ?_
          refine E_getfield (v := .ref 33) at_X0_fewestFor_8 w32 rfl (by decide) rfl ?_
          refine E_iload_n at_X0_fewestFor_11 rfl ?_
          refine E_ialI (l := (lsF (wgh s m (qN s)))) (v := (-1)) at_X0_fewestFor_12 w33 (by omega) (by omega) (by rw [lsF_get (by omega), eb0]; rfl) ?_
          refine E_iconst (x := (-1)) at_X0_fewestFor_13 (by decide) ?_
          refine E_ic (t := 19) (b := false) at_X0_fewestFor_14 rfl (by decide) ?_
          refine E_iconst (x := (-1)) at_X0_fewestFor_17 (by decide) ?_
          exact E_iret at_X0_fewestFor_18 rfl
        refine E_callV (v := some (.int (-1))) (As := [.ref 32, .int (nI v)]) (r0 := []) (cs2 := (ww im lf s d k (lsF (wgh s m (qN s))) rf rz ra rn rq lt m1 m2 m3 m4 bd fc hd sz el t g fm hm so si sh ce ca td wa kp la bf oo bo pw ow tr)) at_X5_fails_47 rfl rfl (Nat.le_of_ble_eq_true rfl) rfl (ab_rvOf w32 rfl) e2 (by decide) rfl ?_
        refine E_istore_n (L2 := [some (.ref 0), some (.int (nI 1)), some (.int (nI v)), some (.int (-1)), x4, x5, x6]) at_X5_fails_50 rfl ?_
        refine E_aload_n at_X5_fails_51 rfl ?_
        refine E_getfield (v := .ref 1) at_X5_fails_52 w0 rfl (by decide) rfl ?_
        refine E_iload_n at_X5_fails_55 rfl ?_
        refine E_callV (v := some (.int (nI gj0))) (As := [.ref 1, .int (nI v)]) (r0 := []) (cs2 := (ww im lf s d k (lsF (wgh s m (qN s))) rf rz ra rn rq lt m1 m2 m3 m4 bd fc hd sz el t g fm hm so si sh ce ca td wa kp la bf oo bo pw ow tr)) at_X5_fails_56 rfl rfl (Nat.le_of_ble_eq_true rfl) rfl (ab_rvOf w1 rfl) (Ev.g1 hg0 (sq_greedyFor w_q1 I (by omega))) (by decide) rfl ?_
        refine E_istore (L2 := [some (.ref 0), some (.int (nI 1)), some (.int (nI v)), some (.int (-1)), some (.int (nI gj0)), x5, x6]) at_X5_fails_59 rfl ?_
        refine E_iload_n at_X5_fails_61 rfl ?_
        refine E_iconst (x := (-1)) at_X5_fails_62 (by decide) ?_
        refine E_ic (t := 76) (b := true) at_X5_fails_63 rfl (by decide) ?_
        refine E_iconst (x := nI 0) at_X5_fails_76 (by decide) ?_
        refine E_istore (L2 := [some (.ref 0), some (.int (nI 1)), some (.int (nI v)), some (.int (-1)), some (.int (nI gj0)), some (.int (nI 0)), x6]) at_X5_fails_77 rfl ?_
        refine E_iload at_X5_fails_79 rfl ?_
        refine E_iconst (x := (-1)) at_X5_fails_81 (by decide) ?_
        refine E_ic (t := 101) (b := false) at_X5_fails_82 rfl ((cn_eq (nI_toInt (by omega)) (by decide : (-1 : Int32).toInt = -1)).trans (decide_eq_false (by omega))) ?_
        refine E_iload at_X5_fails_85 rfl ?_
        refine E_callS (v := some (.int (nI (qMany gj0 9)))) (As := [.int (nI gj0)]) (r0 := []) (cs2 := (ww im lf s d k (lsF (wgh s m (qN s))) rf rz ra rn rq lt m1 m2 m3 m4 bd fc hd sz el t g fm hm so si sh ce ca td wa kp la bf oo bo pw ow tr)) at_X5_fails_87 rfl rfl (Nat.le_of_ble_eq_true rfl) rfl (w_bc (by omega)) (by decide) rfl ?_
        refine E_iload_n at_X5_fails_90 rfl ?_
        refine E_callS (v := some (.int (nI 32))) (As := [.int (-1)]) (r0 := [.int (nI (qMany gj0 9))]) (cs2 := (ww im lf s d k (lsF (wgh s m (qN s))) rf rz ra rn rq lt m1 m2 m3 m4 bd fc hd sz el t g fm hm so si sh ce ca td wa kp la bf oo bo pw ow tr)) at_X5_fails_91 rfl rfl (Nat.le_of_ble_eq_true rfl) rfl w_bcn (by decide) rfl ?_
        refine E_ic (t := 101) (b := true) at_X5_fails_94 rfl ((cn_le (nI_toInt (by omega)) (nI_toInt (by omega))).trans (decide_eq_true (by omega))) ?_
        refine E_iconst (x := nI 0) at_X5_fails_101 (by decide) ?_
        refine E_istore (L2 := [some (.ref 0), some (.int (nI 1)), some (.int (nI v)), some (.int (-1)), some (.int (nI gj0)), some (.int (nI 0)), some (.int (nI 0))]) at_X5_fails_102 rfl ?_
        refine E_iload_n at_X5_fails_104 rfl ?_
        refine E_if (t := 116) (b := true) at_X5_fails_105 rfl (by decide) ?_
        refine E_iload at_X5_fails_116 rfl ?_
        refine E_if (t := 123) (b := true) at_X5_fails_118 rfl (by decide) ?_
        refine E_iinc (y := nI (v + 1)) (L2 := [some (.ref 0), some (.int (nI 1)), some (.int (nI (v + 1))), some (.int (-1)), some (.int (nI gj0)), some (.int (nI 0)), some (.int (nI 0))]) at_X5_fails_123 rfl (nI_1 _) rfl ?_
        refine E_goto (t := 36) at_X5_fails_126 rfl ?_
        exact ih (v + 1) _ _ _ _ (by omega) (by omega)
    · rcases hg0 : qGreedy s v with _ | gj0
      · have w9 : 2 ^ qN s ≤ 2 ^ 9 := Nat.pow_le_pow_right (by decide) (by omega)
        have := lsF_len (wgh s m (qN s))
        have kb0 := kAt_bits I hB0
        have hp : ¬ flP1 s m v = true := by exact fun z => (of_decide_eq_true z).2.1 hg0
        rw [fst_f hp]
        refine E_iload_n at_X5_fails_36 rfl ?_
        refine E_bipush (x := nI 100) at_X5_fails_37 (by decide) ?_
        refine E_ic (t := 129) (b := false) at_X5_fails_39 rfl ((cn_ge (nI_toInt (by omega)) (nI_toInt (by omega))).trans (decide_eq_false (by omega))) ?_
        refine E_aload_n at_X5_fails_42 rfl ?_
        refine E_getfield (v := .ref 32) at_X5_fails_43 w0 rfl (by decide) rfl ?_
        refine E_iload_n at_X5_fails_46 rfl ?_
        have e2 : Ev ab_Z0 2 4 [.ref 32, .int (nI v)] (ww im lf s d k (lsF (wgh s m (qN s))) rf rz ra rn rq lt m1 m2 m3 m4 bd fc hd sz el t g fm hm so si sh ce ca td wa kp la bf oo bo pw ow tr) (some (.int (nI B0)), (ww im lf s d k (lsF (wgh s m (qN s))) rf rz ra rn rq lt m1 m2 m3 m4 bd fc hd sz el t g fm hm so si sh ce ca td wa kp la bf oo bo pw ow tr)) := by
          refine Ef.in (md := mX0_fewestFor) (L := [some (.ref 32), some (.int (nI v))]) rfl (Nat.le_of_ble_eq_true rfl) rfl ?_
          refine E_iload_n at_X0_fewestFor_0 rfl ?_
          have e1 : Ev ab_Z0 1 48 [.int (nI v)] (ww im lf s d k (lsF (wgh s m (qN s))) rf rz ra rn rq lt m1 m2 m3 m4 bd fc hd sz el t g fm hm so si sh ce ca td wa kp la bf oo bo pw ow tr) (some (.int (nI 1)), (ww im lf s d k (lsF (wgh s m (qN s))) rf rz ra rn rq lt m1 m2 m3 m4 bd fc hd sz el t g fm hm so si sh ce ca td wa kp la bf oo bo pw ow tr)) := by
            refine Ef.in (md := mX4_isAmount) (L := [some (.int (nI v))]) rfl (Nat.le_of_ble_eq_true rfl) rfl ?_
            refine E_iload_n at_X4_isAmount_0 rfl ?_
            refine E_if (t := 14) (b := false) at_X4_isAmount_1 rfl ((cn_lt (nI_toInt (by omega)) (by decide : (0 : Int32).toInt = 0)).trans (decide_eq_false (by omega))) ?_
            refine E_iload_n at_X4_isAmount_4 rfl ?_
            refine E_bipush (x := nI 100) at_X4_isAmount_5 (by decide) ?_
            refine E_ic (t := 14) (b := false) at_X4_isAmount_7 rfl ((cn_ge (nI_toInt (by omega)) (nI_toInt (by omega))).trans (decide_eq_false (by omega))) ?_
            refine E_iconst (x := nI 1) at_X4_isAmount_10 (by decide) ?_
            refine E_goto (t := 15) at_X4_isAmount_11 rfl ?_
            exact E_iret at_X4_isAmount_15 rfl
          refine E_callS (v := some (.int (nI 1))) (As := [.int (nI v)]) (r0 := []) (cs2 := (ww im lf s d k (lsF (wgh s m (qN s))) rf rz ra rn rq lt m1 m2 m3 m4 bd fc hd sz el t g fm hm so si sh ce ca td wa kp la bf oo bo pw ow tr)) at_X0_fewestFor_1 rfl rfl (Nat.le_of_ble_eq_true rfl) rfl e1 (by decide) rfl ?_
          refine E_if (t := 17) (b := false) at_X0_fewestFor_4 rfl (by decide) ?_
          refine E_aload_n at_X0_fewestFor_7 rfl ?_
          refine E_getfield (v := .ref 33) at_X0_fewestFor_8 w32 rfl (by decide) rfl ?_
          refine E_iload_n at_X0_fewestFor_11 rfl ?_
          refine E_ialI (l := (lsF (wgh s m (qN s)))) (v := nI (kAt s B0 (qN s))) at_X0_fewestFor_12 w33 (by omega) (by omega) (by rw [lsF_get (by omega), hk0]; exact qE_s _) ?_
          refine E_iconst (x := (-1)) at_X0_fewestFor_13 (by decide) ?_
          refine E_ic (t := 19) (b := true) at_X0_fewestFor_14 rfl ((cn_ne (nI_toInt (by omega)) (by decide : (-1 : Int32).toInt = -1)).trans (decide_eq_true (by omega))) ?_
          refine E_aload_n at_X0_fewestFor_19 rfl ?_
          refine E_getfield (v := .ref 33) at_X0_fewestFor_20 w32 rfl (by decide) rfl ?_
          refine E_iload_n at_X0_fewestFor_23 rfl ?_
          refine E_ialI (l := (lsF (wgh s m (qN s)))) (v := nI (kAt s B0 (qN s))) at_X0_fewestFor_24 w33 (by omega) (by omega) (by rw [lsF_get (by omega), hk0]; exact qE_s _) ?_
          refine E_sipush (x := nI 1023) at_X0_fewestFor_25 (by decide) ?_
          refine E_iand (z := nI B0) at_X0_fewestFor_28 (kAt_and I hB0) ?_
          exact E_iret at_X0_fewestFor_29 rfl
        refine E_callV (v := some (.int (nI B0))) (As := [.ref 32, .int (nI v)]) (r0 := []) (cs2 := (ww im lf s d k (lsF (wgh s m (qN s))) rf rz ra rn rq lt m1 m2 m3 m4 bd fc hd sz el t g fm hm so si sh ce ca td wa kp la bf oo bo pw ow tr)) at_X5_fails_47 rfl rfl (Nat.le_of_ble_eq_true rfl) rfl (ab_rvOf w32 rfl) e2 (by decide) rfl ?_
        refine E_istore_n (L2 := [some (.ref 0), some (.int (nI 1)), some (.int (nI v)), some (.int (nI B0)), x4, x5, x6]) at_X5_fails_50 rfl ?_
        refine E_aload_n at_X5_fails_51 rfl ?_
        refine E_getfield (v := .ref 1) at_X5_fails_52 w0 rfl (by decide) rfl ?_
        refine E_iload_n at_X5_fails_55 rfl ?_
        refine E_callV (v := some (.int (-1))) (As := [.ref 1, .int (nI v)]) (r0 := []) (cs2 := (ww im lf s d k (lsF (wgh s m (qN s))) rf rz ra rn rq lt m1 m2 m3 m4 bd fc hd sz el t g fm hm so si sh ce ca td wa kp la bf oo bo pw ow tr)) at_X5_fails_56 rfl rfl (Nat.le_of_ble_eq_true rfl) rfl (ab_rvOf w1 rfl) (Ev.g0 hg0 (sq_greedyFor w_q1 I (by omega))) (by decide) rfl ?_
        refine E_istore (L2 := [some (.ref 0), some (.int (nI 1)), some (.int (nI v)), some (.int (nI B0)), some (.int (-1)), x5, x6]) at_X5_fails_59 rfl ?_
        refine E_iload_n at_X5_fails_61 rfl ?_
        refine E_iconst (x := (-1)) at_X5_fails_62 (by decide) ?_
        refine E_ic (t := 76) (b := false) at_X5_fails_63 rfl ((cn_eq (nI_toInt (by omega)) (by decide : (-1 : Int32).toInt = -1)).trans (decide_eq_false (by omega))) ?_
        refine E_iload at_X5_fails_66 rfl ?_
        refine E_iconst (x := (-1)) at_X5_fails_68 (by decide) ?_
        refine E_ic (t := 76) (b := false) at_X5_fails_69 rfl (by decide) ?_
        refine E_iconst (x := nI 1) rfl (by decide) ?_
        refine E_goto (t := 77) rfl rfl ?_
        refine E_istore (L2 := [some (.ref 0), some (.int (nI 1)), some (.int (nI v)), some (.int (nI B0)), some (.int (-1)), some (.int (nI 1)), x6]) at_X5_fails_77 rfl ?_
        refine E_iload at_X5_fails_79 rfl ?_
        refine E_iconst (x := (-1)) at_X5_fails_81 (by decide) ?_
        refine E_ic (t := 101) (b := true) at_X5_fails_82 rfl (by decide) ?_
        refine E_iconst (x := nI 0) at_X5_fails_101 (by decide) ?_
        refine E_istore (L2 := [some (.ref 0), some (.int (nI 1)), some (.int (nI v)), some (.int (nI B0)), some (.int (-1)), some (.int (nI 1)), some (.int (nI 0))]) at_X5_fails_102 rfl ?_
        refine E_iload_n at_X5_fails_104 rfl ?_
        refine E_if (t := 116) (b := true) at_X5_fails_105 rfl (by decide) ?_
        refine E_iload at_X5_fails_116 rfl ?_
        refine E_if (t := 123) (b := true) at_X5_fails_118 rfl (by decide) ?_
        refine E_iinc (y := nI (v + 1)) (L2 := [some (.ref 0), some (.int (nI 1)), some (.int (nI (v + 1))), some (.int (nI B0)), some (.int (-1)), some (.int (nI 1)), some (.int (nI 0))]) at_X5_fails_123 rfl (nI_1 _) rfl ?_
        refine E_goto (t := 36) at_X5_fails_126 rfl ?_
        exact ih (v + 1) _ _ _ _ (by omega) (by omega)
      · by_cases f2 : (qMany B0 9) < (qMany gj0 9)
        · have w9 : 2 ^ qN s ≤ 2 ^ 9 := Nat.pow_le_pow_right (by decide) (by omega)
          have := lsF_len (wgh s m (qN s))
          have kb0 := kAt_bits I hB0
          have hh0 : gj0 + 1 ≤ 512 := hg0 ▸ qGr_512 I v
          have := qMany_in gj0 9
          have := qMany_in B0 9
          have hp : flP1 s m v = true := by exact decide_eq_true ⟨by rw [hb0]; omega, by rw [hg0]; omega, by rw [hb0, hg0]; exact (by omega : qMany B0 9 < qMany gj0 9)⟩
          rw [fst_t hp]
          refine E_iload_n at_X5_fails_36 rfl ?_
          refine E_bipush (x := nI 100) at_X5_fails_37 (by decide) ?_
          refine E_ic (t := 129) (b := false) at_X5_fails_39 rfl ((cn_ge (nI_toInt (by omega)) (nI_toInt (by omega))).trans (decide_eq_false (by omega))) ?_
          refine E_aload_n at_X5_fails_42 rfl ?_
          refine E_getfield (v := .ref 32) at_X5_fails_43 w0 rfl (by decide) rfl ?_
          refine E_iload_n at_X5_fails_46 rfl ?_
          have e2 : Ev ab_Z0 2 4 [.ref 32, .int (nI v)] (ww im lf s d k (lsF (wgh s m (qN s))) rf rz ra rn rq lt m1 m2 m3 m4 bd fc hd sz el t g fm hm so si sh ce ca td wa kp la bf oo bo pw ow tr) (some (.int (nI B0)), (ww im lf s d k (lsF (wgh s m (qN s))) rf rz ra rn rq lt m1 m2 m3 m4 bd fc hd sz el t g fm hm so si sh ce ca td wa kp la bf oo bo pw ow tr)) := by
            refine Ef.in (md := mX0_fewestFor) (L := [some (.ref 32), some (.int (nI v))]) rfl (Nat.le_of_ble_eq_true rfl) rfl ?_
            refine E_iload_n at_X0_fewestFor_0 rfl ?_
            have e1 : Ev ab_Z0 1 48 [.int (nI v)] (ww im lf s d k (lsF (wgh s m (qN s))) rf rz ra rn rq lt m1 m2 m3 m4 bd fc hd sz el t g fm hm so si sh ce ca td wa kp la bf oo bo pw ow tr) (some (.int (nI 1)), (ww im lf s d k (lsF (wgh s m (qN s))) rf rz ra rn rq lt m1 m2 m3 m4 bd fc hd sz el t g fm hm so si sh ce ca td wa kp la bf oo bo pw ow tr)) := by
              refine Ef.in (md := mX4_isAmount) (L := [some (.int (nI v))]) rfl (Nat.le_of_ble_eq_true rfl) rfl ?_
              refine E_iload_n at_X4_isAmount_0 rfl ?_
              refine E_if (t := 14) (b := false) at_X4_isAmount_1 rfl ((cn_lt (nI_toInt (by omega)) (by decide : (0 : Int32).toInt = 0)).trans (decide_eq_false (by omega))) ?_
              refine E_iload_n at_X4_isAmount_4 rfl ?_
              refine E_bipush (x := nI 100) at_X4_isAmount_5 (by decide) ?_
              refine E_ic (t := 14) (b := false) at_X4_isAmount_7 rfl ((cn_ge (nI_toInt (by omega)) (nI_toInt (by omega))).trans (decide_eq_false (by omega))) ?_
              refine E_iconst (x := nI 1) at_X4_isAmount_10 (by decide) ?_
              refine E_goto (t := 15) at_X4_isAmount_11 rfl ?_
              exact E_iret at_X4_isAmount_15 rfl
            refine E_callS (v := some (.int (nI 1))) (As := [.int (nI v)]) (r0 := []) (cs2 := (ww im lf s d k (lsF (wgh s m (qN s))) rf rz ra rn rq lt m1 m2 m3 m4 bd fc hd sz el t g fm hm so si sh ce ca td wa kp la bf oo bo pw ow tr)) at_X0_fewestFor_1 rfl rfl (Nat.le_of_ble_eq_true rfl) rfl e1 (by decide) rfl ?_
            refine E_if (t := 17) (b := false) at_X0_fewestFor_4 rfl (by decide) ?_
            refine E_aload_n at_X0_fewestFor_7 rfl ?_
            refine E_getfield (v := .ref 33) at_X0_fewestFor_8 w32 rfl (by decide) rfl ?_
            refine E_iload_n at_X0_fewestFor_11 rfl ?_
            refine E_ialI (l := (lsF (wgh s m (qN s)))) (v := nI (kAt s B0 (qN s))) at_X0_fewestFor_12 w33 (by omega) (by omega) (by rw [lsF_get (by omega), hk0]; exact qE_s _) ?_
            refine E_iconst (x := (-1)) at_X0_fewestFor_13 (by decide) ?_
            refine E_ic (t := 19) (b := true) at_X0_fewestFor_14 rfl ((cn_ne (nI_toInt (by omega)) (by decide : (-1 : Int32).toInt = -1)).trans (decide_eq_true (by omega))) ?_
            refine E_aload_n at_X0_fewestFor_19 rfl ?_
            refine E_getfield (v := .ref 33) at_X0_fewestFor_20 w32 rfl (by decide) rfl ?_
            refine E_iload_n at_X0_fewestFor_23 rfl ?_
            refine E_ialI (l := (lsF (wgh s m (qN s)))) (v := nI (kAt s B0 (qN s))) at_X0_fewestFor_24 w33 (by omega) (by omega) (by rw [lsF_get (by omega), hk0]; exact qE_s _) ?_
            refine E_sipush (x := nI 1023) at_X0_fewestFor_25 (by decide) ?_
            refine E_iand (z := nI B0) at_X0_fewestFor_28 (kAt_and I hB0) ?_
            exact E_iret at_X0_fewestFor_29 rfl
          refine E_callV (v := some (.int (nI B0))) (As := [.ref 32, .int (nI v)]) (r0 := []) (cs2 := (ww im lf s d k (lsF (wgh s m (qN s))) rf rz ra rn rq lt m1 m2 m3 m4 bd fc hd sz el t g fm hm so si sh ce ca td wa kp la bf oo bo pw ow tr)) at_X5_fails_47 rfl rfl (Nat.le_of_ble_eq_true rfl) rfl (ab_rvOf w32 rfl) e2 (by decide) rfl ?_
          refine E_istore_n (L2 := [some (.ref 0), some (.int (nI 1)), some (.int (nI v)), some (.int (nI B0)), x4, x5, x6]) at_X5_fails_50 rfl ?_
          refine E_aload_n at_X5_fails_51 rfl ?_
          refine E_getfield (v := .ref 1) at_X5_fails_52 w0 rfl (by decide) rfl ?_
          refine E_iload_n at_X5_fails_55 rfl ?_
          refine E_callV (v := some (.int (nI gj0))) (As := [.ref 1, .int (nI v)]) (r0 := []) (cs2 := (ww im lf s d k (lsF (wgh s m (qN s))) rf rz ra rn rq lt m1 m2 m3 m4 bd fc hd sz el t g fm hm so si sh ce ca td wa kp la bf oo bo pw ow tr)) at_X5_fails_56 rfl rfl (Nat.le_of_ble_eq_true rfl) rfl (ab_rvOf w1 rfl) (Ev.g1 hg0 (sq_greedyFor w_q1 I (by omega))) (by decide) rfl ?_
          refine E_istore (L2 := [some (.ref 0), some (.int (nI 1)), some (.int (nI v)), some (.int (nI B0)), some (.int (nI gj0)), x5, x6]) at_X5_fails_59 rfl ?_
          refine E_iload_n at_X5_fails_61 rfl ?_
          refine E_iconst (x := (-1)) at_X5_fails_62 (by decide) ?_
          refine E_ic (t := 76) (b := false) at_X5_fails_63 rfl ((cn_eq (nI_toInt (by omega)) (by decide : (-1 : Int32).toInt = -1)).trans (decide_eq_false (by omega))) ?_
          refine E_iload at_X5_fails_66 rfl ?_
          refine E_iconst (x := (-1)) at_X5_fails_68 (by decide) ?_
          refine E_ic (t := 76) (b := true) at_X5_fails_69 rfl ((cn_ne (nI_toInt (by omega)) (by decide : (-1 : Int32).toInt = -1)).trans (decide_eq_true (by omega))) ?_
          refine E_iconst (x := nI 0) at_X5_fails_76 (by decide) ?_
          refine E_istore (L2 := [some (.ref 0), some (.int (nI 1)), some (.int (nI v)), some (.int (nI B0)), some (.int (nI gj0)), some (.int (nI 0)), x6]) at_X5_fails_77 rfl ?_
          refine E_iload at_X5_fails_79 rfl ?_
          refine E_iconst (x := (-1)) at_X5_fails_81 (by decide) ?_
          refine E_ic (t := 101) (b := false) at_X5_fails_82 rfl ((cn_eq (nI_toInt (by omega)) (by decide : (-1 : Int32).toInt = -1)).trans (decide_eq_false (by omega))) ?_
          refine E_iload at_X5_fails_85 rfl ?_
          refine E_callS (v := some (.int (nI (qMany gj0 9)))) (As := [.int (nI gj0)]) (r0 := []) (cs2 := (ww im lf s d k (lsF (wgh s m (qN s))) rf rz ra rn rq lt m1 m2 m3 m4 bd fc hd sz el t g fm hm so si sh ce ca td wa kp la bf oo bo pw ow tr)) at_X5_fails_87 rfl rfl (Nat.le_of_ble_eq_true rfl) rfl (w_bc (by omega)) (by decide) rfl ?_
          refine E_iload_n at_X5_fails_90 rfl ?_
          refine E_callS (v := some (.int (nI (qMany B0 9)))) (As := [.int (nI B0)]) (r0 := [.int (nI (qMany gj0 9))]) (cs2 := (ww im lf s d k (lsF (wgh s m (qN s))) rf rz ra rn rq lt m1 m2 m3 m4 bd fc hd sz el t g fm hm so si sh ce ca td wa kp la bf oo bo pw ow tr)) at_X5_fails_91 rfl rfl (Nat.le_of_ble_eq_true rfl) rfl (w_bc (by omega)) (by decide) rfl ?_
          refine E_ic (t := 101) (b := false) at_X5_fails_94 rfl ((cn_le (nI_toInt (by omega)) (nI_toInt (by omega))).trans (decide_eq_false (by omega))) ?_
          refine E_iconst (x := nI 1) rfl (by decide) ?_
          refine E_goto (t := 102) rfl rfl ?_
          refine E_istore (L2 := [some (.ref 0), some (.int (nI 1)), some (.int (nI v)), some (.int (nI B0)), some (.int (nI gj0)), some (.int (nI 0)), some (.int (nI 1))]) at_X5_fails_102 rfl ?_
          refine E_iload_n at_X5_fails_104 rfl ?_
          refine E_if (t := 116) (b := true) at_X5_fails_105 rfl (by decide) ?_
          refine E_iload at_X5_fails_116 rfl ?_
          refine E_if (t := 123) (b := false) at_X5_fails_118 rfl (by decide) ?_
          refine E_iload_n rfl rfl ?_
          exact E_iret rfl rfl
        · have w9 : 2 ^ qN s ≤ 2 ^ 9 := Nat.pow_le_pow_right (by decide) (by omega)
          have := lsF_len (wgh s m (qN s))
          have kb0 := kAt_bits I hB0
          have hh0 : gj0 + 1 ≤ 512 := hg0 ▸ qGr_512 I v
          have := qMany_in gj0 9
          have := qMany_in B0 9
          have hp : ¬ flP1 s m v = true := by exact fun z => absurd (of_decide_eq_true z).2.2 (by rw [hb0, hg0]; exact (by omega : ¬ qMany B0 9 < qMany gj0 9))
          rw [fst_f hp]
          refine E_iload_n at_X5_fails_36 rfl ?_
          refine E_bipush (x := nI 100) at_X5_fails_37 (by decide) ?_
          refine E_ic (t := 129) (b := false) at_X5_fails_39 rfl ((cn_ge (nI_toInt (by omega)) (nI_toInt (by omega))).trans (decide_eq_false (by omega))) ?_
          refine E_aload_n at_X5_fails_42 rfl ?_
          refine E_getfield (v := .ref 32) at_X5_fails_43 w0 rfl (by decide) rfl ?_
          refine E_iload_n at_X5_fails_46 rfl ?_
          have e2 : Ev ab_Z0 2 4 [.ref 32, .int (nI v)] (ww im lf s d k (lsF (wgh s m (qN s))) rf rz ra rn rq lt m1 m2 m3 m4 bd fc hd sz el t g fm hm so si sh ce ca td wa kp la bf oo bo pw ow tr) (some (.int (nI B0)), (ww im lf s d k (lsF (wgh s m (qN s))) rf rz ra rn rq lt m1 m2 m3 m4 bd fc hd sz el t g fm hm so si sh ce ca td wa kp la bf oo bo pw ow tr)) := by
            refine Ef.in (md := mX0_fewestFor) (L := [some (.ref 32), some (.int (nI v))]) rfl (Nat.le_of_ble_eq_true rfl) rfl ?_
            refine E_iload_n at_X0_fewestFor_0 rfl ?_
            have e1 : Ev ab_Z0 1 48 [.int (nI v)] (ww im lf s d k (lsF (wgh s m (qN s))) rf rz ra rn rq lt m1 m2 m3 m4 bd fc hd sz el t g fm hm so si sh ce ca td wa kp la bf oo bo pw ow tr) (some (.int (nI 1)), (ww im lf s d k (lsF (wgh s m (qN s))) rf rz ra rn rq lt m1 m2 m3 m4 bd fc hd sz el t g fm hm so si sh ce ca td wa kp la bf oo bo pw ow tr)) := by
              refine Ef.in (md := mX4_isAmount) (L := [some (.int (nI v))]) rfl (Nat.le_of_ble_eq_true rfl) rfl ?_
              refine E_iload_n at_X4_isAmount_0 rfl ?_
              refine E_if (t := 14) (b := false) at_X4_isAmount_1 rfl ((cn_lt (nI_toInt (by omega)) (by decide : (0 : Int32).toInt = 0)).trans (decide_eq_false (by omega))) ?_
              refine E_iload_n at_X4_isAmount_4 rfl ?_
              refine E_bipush (x := nI 100) at_X4_isAmount_5 (by decide) ?_
              refine E_ic (t := 14) (b := false) at_X4_isAmount_7 rfl ((cn_ge (nI_toInt (by omega)) (nI_toInt (by omega))).trans (decide_eq_false (by omega))) ?_
              refine E_iconst (x := nI 1) at_X4_isAmount_10 (by decide) ?_
              refine E_goto (t := 15) at_X4_isAmount_11 rfl ?_
              exact E_iret at_X4_isAmount_15 rfl
            refine E_callS (v := some (.int (nI 1))) (As := [.int (nI v)]) (r0 := []) (cs2 := (ww im lf s d k (lsF (wgh s m (qN s))) rf rz ra rn rq lt m1 m2 m3 m4 bd fc hd sz el t g fm hm so si sh ce ca td wa kp la bf oo bo pw ow tr)) at_X0_fewestFor_1 rfl rfl (Nat.le_of_ble_eq_true rfl) rfl e1 (by decide) rfl ?_
            refine E_if (t := 17) (b := false) at_X0_fewestFor_4 rfl (by decide) ?_
            refine E_aload_n at_X0_fewestFor_7 rfl ?_
            refine E_getfield (v := .ref 33) at_X0_fewestFor_8 w32 rfl (by decide) rfl ?_
            refine E_iload_n at_X0_fewestFor_11 rfl ?_
            refine E_ialI (l := (lsF (wgh s m (qN s)))) (v := nI (kAt s B0 (qN s))) at_X0_fewestFor_12 w33 (by omega) (by omega) (by rw [lsF_get (by omega), hk0]; exact qE_s _) ?_
            refine E_iconst (x := (-1)) at_X0_fewestFor_13 (by decide) ?_
            refine E_ic (t := 19) (b := true) at_X0_fewestFor_14 rfl ((cn_ne (nI_toInt (by omega)) (by decide : (-1 : Int32).toInt = -1)).trans (decide_eq_true (by omega))) ?_
            refine E_aload_n at_X0_fewestFor_19 rfl ?_
            refine E_getfield (v := .ref 33) at_X0_fewestFor_20 w32 rfl (by decide) rfl ?_
            refine E_iload_n at_X0_fewestFor_23 rfl ?_
            refine E_ialI (l := (lsF (wgh s m (qN s)))) (v := nI (kAt s B0 (qN s))) at_X0_fewestFor_24 w33 (by omega) (by omega) (by rw [lsF_get (by omega), hk0]; exact qE_s _) ?_
            refine E_sipush (x := nI 1023) at_X0_fewestFor_25 (by decide) ?_
            refine E_iand (z := nI B0) at_X0_fewestFor_28 (kAt_and I hB0) ?_
            exact E_iret at_X0_fewestFor_29 rfl
          refine E_callV (v := some (.int (nI B0))) (As := [.ref 32, .int (nI v)]) (r0 := []) (cs2 := (ww im lf s d k (lsF (wgh s m (qN s))) rf rz ra rn rq lt m1 m2 m3 m4 bd fc hd sz el t g fm hm so si sh ce ca td wa kp la bf oo bo pw ow tr)) at_X5_fails_47 rfl rfl (Nat.le_of_ble_eq_true rfl) rfl (ab_rvOf w32 rfl) e2 (by decide) rfl ?_
          refine E_istore_n (L2 := [some (.ref 0), some (.int (nI 1)), some (.int (nI v)), some (.int (nI B0)), x4, x5, x6]) at_X5_fails_50 rfl ?_
          refine E_aload_n at_X5_fails_51 rfl ?_
          refine E_getfield (v := .ref 1) at_X5_fails_52 w0 rfl (by decide) rfl ?_
          refine E_iload_n at_X5_fails_55 rfl ?_
          refine E_callV (v := some (.int (nI gj0))) (As := [.ref 1, .int (nI v)]) (r0 := []) (cs2 := (ww im lf s d k (lsF (wgh s m (qN s))) rf rz ra rn rq lt m1 m2 m3 m4 bd fc hd sz el t g fm hm so si sh ce ca td wa kp la bf oo bo pw ow tr)) at_X5_fails_56 rfl rfl (Nat.le_of_ble_eq_true rfl) rfl (ab_rvOf w1 rfl) (Ev.g1 hg0 (sq_greedyFor w_q1 I (by omega))) (by decide) rfl ?_
          refine E_istore (L2 := [some (.ref 0), some (.int (nI 1)), some (.int (nI v)), some (.int (nI B0)), some (.int (nI gj0)), x5, x6]) at_X5_fails_59 rfl ?_
          refine E_iload_n at_X5_fails_61 rfl ?_
          refine E_iconst (x := (-1)) at_X5_fails_62 (by decide) ?_
          refine E_ic (t := 76) (b := false) at_X5_fails_63 rfl ((cn_eq (nI_toInt (by omega)) (by decide : (-1 : Int32).toInt = -1)).trans (decide_eq_false (by omega))) ?_
          refine E_iload at_X5_fails_66 rfl ?_
          refine E_iconst (x := (-1)) at_X5_fails_68 (by decide) ?_
          refine E_ic (t := 76) (b := true) at_X5_fails_69 rfl ((cn_ne (nI_toInt (by omega)) (by decide : (-1 : Int32).toInt = -1)).trans (decide_eq_true (by omega))) ?_
          refine E_iconst (x := nI 0) at_X5_fails_76 (by decide) ?_
          refine E_istore (L2 := [some (.ref 0), some (.int (nI 1)), some (.int (nI v)), some (.int (nI B0)), some (.int (nI gj0)), some (.int (nI 0)), x6]) at_X5_fails_77 rfl ?_
          refine E_iload at_X5_fails_79 rfl ?_
          refine E_iconst (x := (-1)) at_X5_fails_81 (by decide) ?_
          refine E_ic (t := 101) (b := false) at_X5_fails_82 rfl ((cn_eq (nI_toInt (by omega)) (by decide : (-1 : Int32).toInt = -1)).trans (decide_eq_false (by omega))) ?_
          refine E_iload at_X5_fails_85 rfl ?_
          refine E_callS (v := some (.int (nI (qMany gj0 9)))) (As := [.int (nI gj0)]) (r0 := []) (cs2 := (ww im lf s d k (lsF (wgh s m (qN s))) rf rz ra rn rq lt m1 m2 m3 m4 bd fc hd sz el t g fm hm so si sh ce ca td wa kp la bf oo bo pw ow tr)) at_X5_fails_87 rfl rfl (Nat.le_of_ble_eq_true rfl) rfl (w_bc (by omega)) (by decide) rfl ?_
          refine E_iload_n at_X5_fails_90 rfl ?_
          refine E_callS (v := some (.int (nI (qMany B0 9)))) (As := [.int (nI B0)]) (r0 := [.int (nI (qMany gj0 9))]) (cs2 := (ww im lf s d k (lsF (wgh s m (qN s))) rf rz ra rn rq lt m1 m2 m3 m4 bd fc hd sz el t g fm hm so si sh ce ca td wa kp la bf oo bo pw ow tr)) at_X5_fails_91 rfl rfl (Nat.le_of_ble_eq_true rfl) rfl (w_bc (by omega)) (by decide) rfl ?_
          refine E_ic (t := 101) (b := true) at_X5_fails_94 rfl ((cn_le (nI_toInt (by omega)) (nI_toInt (by omega))).trans (decide_eq_true (by omega))) ?_
          refine E_iconst (x := nI 0) at_X5_fails_101 (by decide) ?_
          refine E_istore (L2 := [some (.ref 0), some (.int (nI 1)), some (.int (nI v)), some (.int (nI B0)), some (.int (nI gj0)), some (.int (nI 0)), some (.int (nI 0))]) at_X5_fails_102 rfl ?_
          refine E_iload_n at_X5_fails_104 rfl ?_
          refine E_if (t := 116) (b := true) at_X5_fails_105 rfl (by decide) ?_
          refine E_iload at_X5_fails_116 rfl ?_
          refine E_if (t := 123) (b := true) at_X5_fails_118 rfl (by decide) ?_
          refine E_iinc (y := nI (v + 1)) (L2 := [some (.ref 0), some (.int (nI 1)), some (.int (nI (v + 1))), some (.int (nI B0)), some (.int (nI gj0)), some (.int (nI 0)), some (.int (nI 0))]) at_X5_fails_123 rfl (nI_1 _) rfl ?_
          refine E_goto (t := 36) at_X5_fails_126 rfl ?_
          exact ih (v + 1) _ _ _ _ (by omega) (by omega)
set_option maxHeartbeats 1000000 in
theorem fl_m1 {m : Nat} (I : qI t) : ∀ n0 v (x3 : Option Value), v + n0 = 100 → 1 ≤ v → Ef ab_Z0 3 mX6_fails (28, [some (.ref 65), some (.int (nI 1)), some (.int (nI v)), x3], [], (ww im lf s d k ls rf rz ra rn rq lt m1 m2 m3 m4 bd fc hd sz el t g fm hm so si sh ce ca td wa kp la (lsF (bst t m (qN t) (2 ^ qN t))) oo bo pw ow tr)) (some (.int (fstP (flP1 t m) n0 v)), (ww im lf s d k ls rf rz ra rn rq lt m1 m2 m3 m4 bd fc hd sz el t g fm hm so si sh ce ca td wa kp la (lsF (bst t m (qN t) (2 ^ qN t))) oo bo pw ow tr)) := by
  have h9 := I.2.2.1.1
  intro n0
  induction n0 with
  | zero =>
    intro v x3 hi hv
    have hi : v = 100 := by omega
    rw [hi]
    have w9 : 2 ^ qN t ≤ 2 ^ 9 := Nat.pow_le_pow_right (by decide) (by omega)
    refine E_iload_n at_X6_fails_28 rfl ?_
    refine E_bipush (x := nI 100) at_X6_fails_29 (by decide) ?_
    refine E_ic (t := 96) (b := true) at_X6_fails_31 rfl (by decide) ?_
    refine E_iconst (x := (-1)) rfl (by decide) ?_
    exact E_iret rfl rfl
  | succ n0 ih =>
    intro v x3 hi hv
    rcases wgh_bst t m (qN t) v with ⟨eb0, fb0⟩ | ⟨B0, hB0, hs0, hw0, hb0, hk0⟩
    · have w9 : 2 ^ qN t ≤ 2 ^ 9 := Nat.pow_le_pow_right (by decide) (by omega)
      have := lsF_len (bst t m (qN t) (2 ^ qN t))
      have hp : ¬ flP1 t m v = true := by exact fun z => (of_decide_eq_true z).1 fb0
      rw [fst_f hp]
      refine E_iload_n at_X6_fails_28 rfl ?_
      refine E_bipush (x := nI 100) at_X6_fails_29 (by decide) ?_
      refine E_ic (t := 96) (b := false) at_X6_fails_31 rfl ((cn_ge (nI_toInt (by omega)) (nI_toInt (by omega))).trans (decide_eq_false (by omega))) ?_
      refine E_aload_n at_X6_fails_34 rfl ?_
      refine E_getfield (v := .ref 89) at_X6_fails_35 w65 rfl (by decide) rfl ?_
      refine E_iload_n at_X6_fails_38 rfl ?_
      refine E_ialI (l := (lsF (bst t m (qN t) (2 ^ qN t)))) (v := (-1)) at_X6_fails_39 w89 (by omega) (by omega) (by rw [lsF_get (by omega), fb0]; rfl) ?_
      refine E_iconst (x := (-1)) at_X6_fails_40 (by decide) ?_
      refine E_ic (t := 47) (b := false) at_X6_fails_41 rfl (by decide) ?_
      refine E_goto (t := 90) rfl rfl ?_
      refine E_iinc (y := nI (v + 1)) (L2 := [some (.ref 65), some (.int (nI 1)), some (.int (nI (v + 1))), x3]) at_X6_fails_90 rfl (nI_1 _) rfl ?_
      refine E_goto (t := 28) at_X6_fails_93 rfl ?_
      exact ih (v + 1) _ (by omega) (by omega)
    · rcases hg0 : qGreedy t v with _ | gj0
      · have w9 : 2 ^ qN t ≤ 2 ^ 9 := Nat.pow_le_pow_right (by decide) (by omega)
        have := lsF_len (bst t m (qN t) (2 ^ qN t))
        have hp : ¬ flP1 t m v = true := by exact fun z => (of_decide_eq_true z).2.1 hg0
        rw [fst_f hp]
        refine E_iload_n at_X6_fails_28 rfl ?_
        refine E_bipush (x := nI 100) at_X6_fails_29 (by decide) ?_
        refine E_ic (t := 96) (b := false) at_X6_fails_31 rfl ((cn_ge (nI_toInt (by omega)) (nI_toInt (by omega))).trans (decide_eq_false (by omega))) ?_
        refine E_aload_n at_X6_fails_34 rfl ?_
        refine E_getfield (v := .ref 89) at_X6_fails_35 w65 rfl (by decide) rfl ?_
        refine E_iload_n at_X6_fails_38 rfl ?_
        refine E_ialI (l := (lsF (bst t m (qN t) (2 ^ qN t)))) (v := nI B0) at_X6_fails_39 w89 (by omega) (by omega) (by rw [lsF_get (by omega), hb0]; rfl) ?_
        refine E_iconst (x := (-1)) at_X6_fails_40 (by decide) ?_
        refine E_ic (t := 47) (b := true) at_X6_fails_41 rfl ((cn_ne (nI_toInt (by omega)) (by decide : (-1 : Int32).toInt = -1)).trans (decide_eq_true (by omega))) ?_
        refine E_aload_n at_X6_fails_47 rfl ?_
        refine E_iload_n at_X6_fails_48 rfl ?_
        refine E_callV (v := some (.int (-1))) (As := [.ref 65, .int (nI v)]) (r0 := []) (cs2 := (ww im lf s d k ls rf rz ra rn rq lt m1 m2 m3 m4 bd fc hd sz el t g fm hm so si sh ce ca td wa kp la (lsF (bst t m (qN t) (2 ^ qN t))) oo bo pw ow tr)) at_X6_fails_49 rfl rfl (Nat.le_of_ble_eq_true rfl) rfl (ab_rvOf w65 rfl) (Ev.g0 hg0 (mo_greedyFor w_m I (by omega))) (by decide) rfl ?_
        refine E_istore_n (L2 := [some (.ref 65), some (.int (nI 1)), some (.int (nI v)), some (.int (-1))]) at_X6_fails_52 rfl ?_
        refine E_iload_n at_X6_fails_53 rfl ?_
        refine E_if (t := 65) (b := true) at_X6_fails_54 rfl (by decide) ?_
        refine E_iload_n rfl rfl ?_
        refine E_iconst (x := (-1)) rfl (by decide) ?_
        refine E_ic (t := 90) (b := true) rfl rfl (by decide) ?_
        refine E_iinc (y := nI (v + 1)) (L2 := [some (.ref 65), some (.int (nI 1)), some (.int (nI (v + 1))), some (.int (-1))]) at_X6_fails_90 rfl (nI_1 _) rfl ?_
        refine E_goto (t := 28) at_X6_fails_93 rfl ?_
        exact ih (v + 1) _ (by omega) (by omega)
      · by_cases f2 : (qMany B0 9) < (qMany gj0 9)
        · have w9 : 2 ^ qN t ≤ 2 ^ 9 := Nat.pow_le_pow_right (by decide) (by omega)
          have := lsF_len (bst t m (qN t) (2 ^ qN t))
          have hh0 : gj0 + 1 ≤ 512 := hg0 ▸ qGr_512 I v
          have := qMany_in gj0 9
          have := qMany_in B0 9
          have hp : flP1 t m v = true := by exact decide_eq_true ⟨by rw [hb0]; omega, by rw [hg0]; omega, by rw [hb0, hg0]; exact (by omega : qMany B0 9 < qMany gj0 9)⟩
          rw [fst_t hp]
          refine E_iload_n at_X6_fails_28 rfl ?_
          refine E_bipush (x := nI 100) at_X6_fails_29 (by decide) ?_
          refine E_ic (t := 96) (b := false) at_X6_fails_31 rfl ((cn_ge (nI_toInt (by omega)) (nI_toInt (by omega))).trans (decide_eq_false (by omega))) ?_
          refine E_aload_n at_X6_fails_34 rfl ?_
          refine E_getfield (v := .ref 89) at_X6_fails_35 w65 rfl (by decide) rfl ?_
          refine E_iload_n at_X6_fails_38 rfl ?_
          refine E_ialI (l := (lsF (bst t m (qN t) (2 ^ qN t)))) (v := nI B0) at_X6_fails_39 w89 (by omega) (by omega) (by rw [lsF_get (by omega), hb0]; rfl) ?_
          refine E_iconst (x := (-1)) at_X6_fails_40 (by decide) ?_
          refine E_ic (t := 47) (b := true) at_X6_fails_41 rfl ((cn_ne (nI_toInt (by omega)) (by decide : (-1 : Int32).toInt = -1)).trans (decide_eq_true (by omega))) ?_
          refine E_aload_n at_X6_fails_47 rfl ?_
          refine E_iload_n at_X6_fails_48 rfl ?_
          refine E_callV (v := some (.int (nI gj0))) (As := [.ref 65, .int (nI v)]) (r0 := []) (cs2 := (ww im lf s d k ls rf rz ra rn rq lt m1 m2 m3 m4 bd fc hd sz el t g fm hm so si sh ce ca td wa kp la (lsF (bst t m (qN t) (2 ^ qN t))) oo bo pw ow tr)) at_X6_fails_49 rfl rfl (Nat.le_of_ble_eq_true rfl) rfl (ab_rvOf w65 rfl) (Ev.g1 hg0 (mo_greedyFor w_m I (by omega))) (by decide) rfl ?_
          refine E_istore_n (L2 := [some (.ref 65), some (.int (nI 1)), some (.int (nI v)), some (.int (nI gj0))]) at_X6_fails_52 rfl ?_
          refine E_iload_n at_X6_fails_53 rfl ?_
          refine E_if (t := 65) (b := true) at_X6_fails_54 rfl (by decide) ?_
          refine E_iload_n rfl rfl ?_
          refine E_iconst (x := (-1)) rfl (by decide) ?_
          refine E_ic (t := 90) (b := false) rfl rfl ((cn_eq (nI_toInt (by omega)) (by decide : (-1 : Int32).toInt = -1)).trans (decide_eq_false (by omega))) ?_
          refine E_aload_n rfl rfl ?_
          refine E_iload_n rfl rfl ?_
          refine E_callV (v := some (.int (nI (qMany gj0 9)))) (As := [.ref 65, .int (nI gj0)]) (r0 := []) (cs2 := (ww im lf s d k ls rf rz ra rn rq lt m1 m2 m3 m4 bd fc hd sz el t g fm hm so si sh ce ca td wa kp la (lsF (bst t m (qN t) (2 ^ qN t))) oo bo pw ow tr)) rfl rfl rfl (Nat.le_of_ble_eq_true rfl) rfl (ab_rvOf w65 rfl) (mo_many w_m I (by omega)) (by decide) rfl ?_
          refine E_aload_n rfl rfl ?_
          refine E_aload_n rfl rfl ?_
          refine E_getfield (v := .ref 89) rfl w65 rfl (by decide) rfl ?_
          refine E_iload_n rfl rfl ?_
          refine E_ialI (l := (lsF (bst t m (qN t) (2 ^ qN t)))) (v := nI B0) rfl w89 (by omega) (by omega) (by rw [lsF_get (by omega), hb0]; rfl) ?_
          refine E_callV (v := some (.int (nI (qMany B0 9)))) (As := [.ref 65, .int (nI B0)]) (r0 := [.int (nI (qMany gj0 9))]) (cs2 := (ww im lf s d k ls rf rz ra rn rq lt m1 m2 m3 m4 bd fc hd sz el t g fm hm so si sh ce ca td wa kp la (lsF (bst t m (qN t) (2 ^ qN t))) oo bo pw ow tr)) rfl rfl rfl (Nat.le_of_ble_eq_true rfl) rfl (ab_rvOf w65 rfl) (mo_many w_m I (by omega)) (by decide) rfl ?_
          refine E_ic (t := 90) (b := false) rfl rfl ((cn_le (nI_toInt (by omega)) (nI_toInt (by omega))).trans (decide_eq_false (by omega))) ?_
          refine E_iload_n rfl rfl ?_
          exact E_iret rfl rfl
        · have w9 : 2 ^ qN t ≤ 2 ^ 9 := Nat.pow_le_pow_right (by decide) (by omega)
          have := lsF_len (bst t m (qN t) (2 ^ qN t))
          have hh0 : gj0 + 1 ≤ 512 := hg0 ▸ qGr_512 I v
          have := qMany_in gj0 9
          have := qMany_in B0 9
          have hp : ¬ flP1 t m v = true := by exact fun z => absurd (of_decide_eq_true z).2.2 (by rw [hb0, hg0]; exact (by omega : ¬ qMany B0 9 < qMany gj0 9))
          rw [fst_f hp]
          refine E_iload_n at_X6_fails_28 rfl ?_
          refine E_bipush (x := nI 100) at_X6_fails_29 (by decide) ?_
          refine E_ic (t := 96) (b := false) at_X6_fails_31 rfl ((cn_ge (nI_toInt (by omega)) (nI_toInt (by omega))).trans (decide_eq_false (by omega))) ?_
          refine E_aload_n at_X6_fails_34 rfl ?_
          refine E_getfield (v := .ref 89) at_X6_fails_35 w65 rfl (by decide) rfl ?_
          refine E_iload_n at_X6_fails_38 rfl ?_
          refine E_ialI (l := (lsF (bst t m (qN t) (2 ^ qN t)))) (v := nI B0) at_X6_fails_39 w89 (by omega) (by omega) (by rw [lsF_get (by omega), hb0]; rfl) ?_
          refine E_iconst (x := (-1)) at_X6_fails_40 (by decide) ?_
          refine E_ic (t := 47) (b := true) at_X6_fails_41 rfl ((cn_ne (nI_toInt (by omega)) (by decide : (-1 : Int32).toInt = -1)).trans (decide_eq_true (by omega))) ?_
          refine E_aload_n at_X6_fails_47 rfl ?_
          refine E_iload_n at_X6_fails_48 rfl ?_
          refine E_callV (v := some (.int (nI gj0))) (As := [.ref 65, .int (nI v)]) (r0 := []) (cs2 := (ww im lf s d k ls rf rz ra rn rq lt m1 m2 m3 m4 bd fc hd sz el t g fm hm so si sh ce ca td wa kp la (lsF (bst t m (qN t) (2 ^ qN t))) oo bo pw ow tr)) at_X6_fails_49 rfl rfl (Nat.le_of_ble_eq_true rfl) rfl (ab_rvOf w65 rfl) (Ev.g1 hg0 (mo_greedyFor w_m I (by omega))) (by decide) rfl ?_
          refine E_istore_n (L2 := [some (.ref 65), some (.int (nI 1)), some (.int (nI v)), some (.int (nI gj0))]) at_X6_fails_52 rfl ?_
          refine E_iload_n at_X6_fails_53 rfl ?_
          refine E_if (t := 65) (b := true) at_X6_fails_54 rfl (by decide) ?_
          refine E_iload_n rfl rfl ?_
          refine E_iconst (x := (-1)) rfl (by decide) ?_
          refine E_ic (t := 90) (b := false) rfl rfl ((cn_eq (nI_toInt (by omega)) (by decide : (-1 : Int32).toInt = -1)).trans (decide_eq_false (by omega))) ?_
          refine E_aload_n rfl rfl ?_
          refine E_iload_n rfl rfl ?_
          refine E_callV (v := some (.int (nI (qMany gj0 9)))) (As := [.ref 65, .int (nI gj0)]) (r0 := []) (cs2 := (ww im lf s d k ls rf rz ra rn rq lt m1 m2 m3 m4 bd fc hd sz el t g fm hm so si sh ce ca td wa kp la (lsF (bst t m (qN t) (2 ^ qN t))) oo bo pw ow tr)) rfl rfl rfl (Nat.le_of_ble_eq_true rfl) rfl (ab_rvOf w65 rfl) (mo_many w_m I (by omega)) (by decide) rfl ?_
          refine E_aload_n rfl rfl ?_
          refine E_aload_n rfl rfl ?_
          refine E_getfield (v := .ref 89) rfl w65 rfl (by decide) rfl ?_
          refine E_iload_n rfl rfl ?_
          refine E_ialI (l := (lsF (bst t m (qN t) (2 ^ qN t)))) (v := nI B0) rfl w89 (by omega) (by omega) (by rw [lsF_get (by omega), hb0]; rfl) ?_
          refine E_callV (v := some (.int (nI (qMany B0 9)))) (As := [.ref 65, .int (nI B0)]) (r0 := [.int (nI (qMany gj0 9))]) (cs2 := (ww im lf s d k ls rf rz ra rn rq lt m1 m2 m3 m4 bd fc hd sz el t g fm hm so si sh ce ca td wa kp la (lsF (bst t m (qN t) (2 ^ qN t))) oo bo pw ow tr)) rfl rfl rfl (Nat.le_of_ble_eq_true rfl) rfl (ab_rvOf w65 rfl) (mo_many w_m I (by omega)) (by decide) rfl ?_
          refine E_ic (t := 90) (b := true) rfl rfl ((cn_le (nI_toInt (by omega)) (nI_toInt (by omega))).trans (decide_eq_true (by omega))) ?_
          refine E_iinc (y := nI (v + 1)) (L2 := [some (.ref 65), some (.int (nI 1)), some (.int (nI (v + 1))), some (.int (nI gj0))]) at_X6_fails_90 rfl (nI_1 _) rfl ?_
          refine E_goto (t := 28) at_X6_fails_93 rfl ?_
          exact ih (v + 1) _ (by omega) (by omega)
end FL
