/-! runs as a relation: rows for a symbolic walk -/
theorem ab_fr_mono {M : List ab_D} {G : Nat → Option ab_T} {Z : ab_Z} {md : ab_D} {c1 c2 : Nat → List Value → List ab_C → Option (Option Value × List ab_C)} (hc : ∀ y As cs r, c1 y As cs = some r → c2 y As cs = some r) :
    ∀ (f g : Nat) (x : ab_S) (r : Option Value × List ab_C), f ≤ g → ab_fr M G Z c1 md f x = some r → ab_fr M G Z c2 md g x = some r := by
  intro f
  induction f with
  | zero => intro g x r hfg h; obtain ⟨pc, L, st, cs⟩ := x; cases h
  | succ f ih =>
    intro g x r hfg h
    obtain ⟨g, rfl⟩ : ∃ g', g = g' + 1 := ⟨g - 1, by omega⟩
    have hfg : f ≤ g := by omega
    obtain ⟨pc, L, st, cs⟩ := x
    unfold ab_fr at h
    split at h
    · cases h
    · rename_i hat
      split at h
      · cases h
      · rename_i hln
        split at h
        · rename_i hp
          unfold ab_fr
          rw [hat]; dsimp only; rw [if_neg hln, hp]
          exact ih g _ _ hfg h
        · rename_i hp
          split at h
          · rename_i hp2
            unfold ab_fr
            rw [hat]; dsimp only; rw [if_neg hln, hp]; dsimp only; rw [hp2]
            exact ih g _ _ hfg h
          · rename_i hp2
            split at h
            · rename_i hp3
              unfold ab_fr
              rw [hat]; dsimp only; rw [if_neg hln, hp]; dsimp only; rw [hp2]; dsimp only; rw [hp3]
              exact ih g _ _ hfg h
            · rename_i hp3
              split at h
              · rename_i hp4
                unfold ab_fr
                rw [hat]; dsimp only; rw [if_neg hln, hp]; dsimp only; rw [hp2]; dsimp only; rw [hp3]; dsimp only; rw [hp4]
                exact h
              · rename_i hp4
                split at h
                · rename_i hp5
                  split at h
                  · rename_i hq
                    unfold ab_fr
                    rw [hat]; dsimp only; rw [if_neg hln, hp]; dsimp only; rw [hp2]; dsimp only; rw [hp3]; dsimp only; rw [hp4]; dsimp only; rw [hp5]; dsimp only; rw [if_pos hq]
                    exact ih g _ _ hfg h
                  · cases h
                · rename_i hp5
                  split at h
                  · cases h
                  · rename_i hp6
                    split at h
                    · cases h
                    · rename_i hp7
                      split at h
                      · rename_i hq
                        split at h
                        · cases h
                        · rename_i hp8
                          split at h
                          · rename_i hq2
                            unfold ab_fr
                            rw [hat]; dsimp only; rw [if_neg hln, hp]; dsimp only; rw [hp2]; dsimp only; rw [hp3]; dsimp only; rw [hp4]; dsimp only; rw [hp5]; dsimp only; rw [hp6]; dsimp only; rw [hp7]; dsimp only; rw [if_pos hq, hc _ _ _ _ hp8]; dsimp only; rw [if_pos hq2]
                            exact ih g _ _ hfg h
                          · cases h
                      · cases h
theorem ab_run_mono {M : List ab_D} {G : Nat → Option ab_T} {Z : ab_Z} : ∀ (d e f g y : Nat) (As : List Value) (cs : List ab_C) (r : Option Value × List ab_C), d ≤ e → f ≤ g → ab_run M G Z d f y As cs = some r → ab_run M G Z e g y As cs = some r := by
  intro d
  induction d with
  | zero => intro e f g y As cs r _ _ h; cases h
  | succ d ih =>
    intro e f g y As cs r hde hfg h
    obtain ⟨e, rfl⟩ : ∃ e', e = e' + 1 := ⟨e - 1, by omega⟩
    unfold ab_run at h
    split at h
    · cases h
    · rename_i hm
      split at h
      · rename_i hl
        unfold ab_run
        rw [hm]
        dsimp only
        rw [if_pos hl]
        exact ab_fr_mono (fun y As cs r hr => ih e f g y As cs r (by omega) hfg hr) f g _ r hfg h
      · cases h
/-- method y, at these arguments in this world, comes to this answer and world (d: how deep calls go) -/
def Ev (Z : ab_Z) (d y : Nat) (As : List Value) (cs : List ab_C) (r : Option Value × List ab_C) : Prop := ∃ f, ab_run ab_M ab_G Z d f y As cs = some r
/-- a frame's state comes to this answer and world; its calls run over Z0 -/
def Ef (Z : ab_Z) (d : Nat) (md : ab_D) (x : ab_S) (r : Option Value × List ab_C) : Prop := ∃ f F, ab_fr ab_M ab_G Z (fun y As cs => ab_run ab_M ab_G ab_Z0 d f y As cs) md F x = some r
section EF
variable {Z : ab_Z} {d : Nat} {md : ab_D} {pc len : Nat} {L L2 : ab_L} {st st2 : List Value} {cs cs2 : List ab_C} {r : Option Value × List ab_C} {ins : Instr} {k : ab_K} {ps : List Nat}
theorem Ev.up {e y : Nat} {As : List Value} (h : Ev Z d y As cs r) (hd : d ≤ e) : Ev Z e y As cs r := by
  obtain ⟨f, h⟩ := h
  exact ⟨f, ab_run_mono d e f f y As cs r hd (Nat.le_refl _) h⟩
theorem Ef.pu {pc2 : Nat} (h : ab_at md pc = some (ins, len, k, ps)) (hl : ab_ln ins = len ∨ ab_ln ins = 0) (hp : ab_pu ins pc st = some (pc2, st2)) (K : Ef Z d md (pc2, L, st2, cs) r) : Ef Z d md (pc, L, st, cs) r := by
  obtain ⟨f, F, K⟩ := K
  refine ⟨f, F + 1, ?_⟩
  unfold ab_fr
  rw [h]
  dsimp only
  rw [if_neg (not_not_intro hl), hp]
  exact K
theorem Ef.lo (h : ab_at md pc = some (ins, len, k, ps)) (hl : ab_ln ins = len ∨ ab_ln ins = 0) (h0 : ab_pu ins pc st = none) (hp : ab_lo ins L st = some (L2, st2)) (K : Ef Z d md (pc + len, L2, st2, cs) r) : Ef Z d md (pc, L, st, cs) r := by
  obtain ⟨f, F, K⟩ := K
  refine ⟨f, F + 1, ?_⟩
  unfold ab_fr
  rw [h]
  dsimp only
  rw [if_neg (not_not_intro hl), h0]
  dsimp only
  rw [hp]
  exact K
theorem Ef.hp (h : ab_at md pc = some (ins, len, k, ps)) (hl : ab_ln ins = len ∨ ab_ln ins = 0) (h0 : ab_pu ins pc st = none) (h1 : ab_lo ins L st = none) (hp : ab_hp ab_G Z md.2.2.2.2.1 md.2.2.2.2.2.2.1 ins k st cs = some (st2, cs2)) (K : Ef Z d md (pc + len, L, st2, cs2) r) : Ef Z d md (pc, L, st, cs) r := by
  obtain ⟨f, F, K⟩ := K
  refine ⟨f, F + 1, ?_⟩
  unfold ab_fr
  rw [h]
  dsimp only
  rw [if_neg (not_not_intro hl), h0]
  dsimp only
  rw [h1]
  dsimp only
  rw [hp]
  exact K
theorem Ef.re {v : Option Value} (h : ab_at md pc = some (ins, len, k, ps)) (hl : ab_ln ins = len ∨ ab_ln ins = 0) (h0 : ab_pu ins pc st = none) (h1 : ab_lo ins L st = none) (h2 : ab_hp ab_G Z md.2.2.2.2.1 md.2.2.2.2.2.2.1 ins k st cs = none) (hp : ab_re md.2.2.2.1 ins st = some v) : Ef Z d md (pc, L, st, cs) (v, cs) := by
  refine ⟨0, 1, ?_⟩
  unfold ab_fr
  rw [h]
  dsimp only
  rw [if_neg (not_not_intro hl), h0]
  dsimp only
  rw [h1]
  dsimp only
  rw [h2]
  dsimp only
  rw [hp]
theorem Ef.nw {c1 : ab_C} (h : ab_at md pc = some (ins, len, k, ps)) (hl : ab_ln ins = len ∨ ab_ln ins = 0) (h0 : ab_pu ins pc st = none) (h1 : ab_lo ins L st = none) (h2 : ab_hp ab_G Z md.2.2.2.2.1 md.2.2.2.2.2.2.1 ins k st cs = none) (h3 : ab_re md.2.2.2.1 ins st = none) (hp : ab_nw ab_G Z.1 ins k st = some (st2, c1)) (hf : cs.length < 1000000 ∧ (L.all (ab_fo cs.length) && (st2.all (ab_fv cs.length) && cs.all (ab_fc cs.length))) = true)
    (K : Ef Z d md (pc + len, L, .ref cs.length :: st2, cs ++ [c1]) r) : Ef Z d md (pc, L, st, cs) r := by
  obtain ⟨f, F, K⟩ := K
  refine ⟨f, F + 1, ?_⟩
  unfold ab_fr
  rw [h]
  dsimp only
  rw [if_neg (not_not_intro hl), h0]
  dsimp only
  rw [h1]
  dsimp only
  rw [h2]
  dsimp only
  rw [h3]
  dsimp only
  rw [hp]
  dsimp only
  rw [if_pos hf]
  exact K
theorem Ef.ca {y : Nat} {As r0 : List Value} {my : ab_D} {v : Option Value} (h : ab_at md pc = some (ins, len, k, ps)) (hl : ab_ln ins = len ∨ ab_ln ins = 0) (h0 : ab_pu ins pc st = none) (h1 : ab_lo ins L st = none) (h2 : ab_hp ab_G Z md.2.2.2.2.1 md.2.2.2.2.2.2.1 ins k st cs = none) (h3 : ab_re md.2.2.2.1 ins st = none) (h4 : ab_nw ab_G Z.1 ins k st = none) (hca : ab_ca ins k st = some (y, As, r0)) (hmy : ab_M[y]? = some my)
    (hc : ab_sm r0 ≤ 8 ∧ As.length = my.2.2.2.2.2.1 + cond (k.1 == 4) 0 1 ∧ (k.1 = 3 → ab_rv ab_G my.2.2.2.2.1 As cs = true) ∧ (k.1 = 5 ∨ k.1 = 15 → my.2.2.2.2.2.2.1 = true ∧ my.2.2.2.1 = none ∧ ab_rf As = true)) (hv : Ev ab_Z0 d y As cs (v, cs2)) (hf : cs2.length = cs.length ∨ (L.all (ab_fo cs.length) && r0.all (ab_fv cs.length)) = true)
    (K : Ef Z d md (pc + 3, L, v.toList ++ r0, cs2) r) : Ef Z d md (pc, L, st, cs) r := by
  obtain ⟨f, F, K⟩ := K
  obtain ⟨f2, hv⟩ := hv
  refine ⟨f + f2, F + 1, ?_⟩
  have K2 := ab_fr_mono (c2 := fun y As cs => ab_run ab_M ab_G ab_Z0 d (f + f2) y As cs) (fun y As cs r hr => ab_run_mono d d f (f + f2) y As cs r (Nat.le_refl _) (by omega) hr) F F _ r (Nat.le_refl _) K
  have hv2 := ab_run_mono d d f2 (f + f2) y As cs _ (Nat.le_refl _) (by omega) hv
  unfold ab_fr
  rw [h]
  dsimp only
  rw [if_neg (not_not_intro hl), h0]
  dsimp only
  rw [h1]
  dsimp only
  rw [h2]
  dsimp only
  rw [h3]
  dsimp only
  rw [h4]
  dsimp only
  rw [hca]
  dsimp only
  rw [hmy]
  dsimp only
  rw [if_pos hc, hv2]
  dsimp only
  rw [if_pos hf]
  exact K2
theorem Ef.in {y : Nat} {As : List Value} (hmy : ab_M[y]? = some md) (hl : (ab_ag As).length ≤ md.2.2.1) (hL : ab_ag As ++ List.replicate (md.2.2.1 - (ab_ag As).length) none = L) (K : Ef ab_Z0 d md (0, L, [], cs) r) : Ev ab_Z0 (d + 1) y As cs r := by
  obtain ⟨f, F, K⟩ := K
  refine ⟨f + F, ?_⟩
  unfold ab_run
  rw [hmy]
  dsimp only
  rw [if_pos hl, hL]
  exact ab_fr_mono (fun y As cs r hr => ab_run_mono d d f (f + F) y As cs r (Nat.le_refl _) (by omega) hr) F (f + F) _ r (by omega) K
def ab_d4 : DecidableEq (List Int64 ⊕ (List (Option Nat) ⊕ (Nat × List Value))) := inferInstance
def ab_d5 : DecidableEq ab_C := by
  letI := ab_d4
  exact inferInstance
def ab_d6 : DecidableEq (Option Value × List ab_C) := by
  letI := ab_d5
  exact inferInstance
/-- a closed run, by evaluation -/
def ab_isr (d f y : Nat) (As : List Value) (cs : List ab_C) (r : Option Value × List ab_C) : Bool := match ab_run ab_M ab_G ab_Z0 d f y As cs with
  | some q => @decide (q = r) (ab_d6 q r)
  | none => false
theorem Ev.by {f y : Nat} {As : List Value} (h : ab_isr d f y As cs r = true) : Ev ab_Z0 d y As cs r := by
  unfold ab_isr at h
  split at h
  · rename_i q hq
    have h := @of_decide_eq_true _ (ab_d6 q r) h
    subst h
    exact ⟨f, hq⟩
  · cases h
end EF
