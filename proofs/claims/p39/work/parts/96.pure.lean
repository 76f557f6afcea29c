/-! every script of at most 3072 ints; by program (wip/tools/mkend.py) -/
theorem ab_pure (xs : List Int32) (h : xs.length ≤ 3072) : ∃ (d f F : Nat) (cs2 : List ab_C), d ≤ 800 ∧ ab_fr ab_M ab_G (3, ab_Tb ++ [xs]) (fun y As cs => ab_run ab_M ab_G ab_Z0 d f y As cs) mL_law F (0, [some (.ref 1000002), none, none, none], [], []) = some (some (.int 1), cs2) ∧ cs2.length ≤ 600000 ∧ ab_sz cs2 ≤ 7302250 := by
  obtain ⟨x2, h2, e⟩ := lw_all h 512 0 fx_0 (by omega) (by decide) fx_wI
  obtain ⟨f, F, hF⟩ := fx_start e
  exact ⟨41, f, F, wt x2, by decide, hF, by rw [wt_len]; decide, wt_sz x2 h2⟩
