/-! calls, a frame, a method -/
theorem ab_hp_sz {G : Nat → Option ab_T} {Z : ab_Z} {o : Nat} {isI : Bool} {ins : Instr} {k : ab_K} {st st2 : List Value} {cs cs2 : List ab_C} (h : ab_hp G Z o isI ins k st cs = some (st2, cs2)) : cs2.length = cs.length ∧ ab_sz cs2 = ab_sz cs := by
  unfold ab_hp at h
  split at h
  · split at h
    · unfold ab_gf at h
      split at h
      · split at h
        · split at h
          · split at h
            · cases h; exact ⟨rfl, rfl⟩
            · cases h
          · cases h
        · cases h
      · cases h
    · cases h
  · split at h
    · unfold ab_pf at h
      split at h
      · split at h
        · rename_i he hg
          split at h
          · cases h
            exact ⟨List.length_set, ab_sz_set he (by show (List.set _ _ _).length = _; rw [List.length_set]; rfl)⟩
          · cases h
        · cases h
      · cases h
    · cases h
  · unfold ab_ia at h
    split at h
    · split at h
      · split at h
        · cases h
        · cases h; exact ⟨rfl, rfl⟩
      · split at h
        · split at h
          · cases h
          · cases h; exact ⟨rfl, rfl⟩
        · cases h
      · cases h
    · cases h
  · unfold ab_la at h
    split at h
    · split at h
      · split at h
        · cases h
        · cases h; exact ⟨rfl, rfl⟩
      · cases h
    · cases h
  · unfold ab_aa at h
    split at h
    · split at h
      · split at h
        · cases h
        · cases h; exact ⟨rfl, rfl⟩
      · cases h
    · cases h
  · unfold ab_is at h
    split at h
    · split at h
      · rename_i he
        split at h
        · cases h
        · cases h
          exact ⟨List.length_set, ab_sz_set he (by show (List.set _ _ _).length = _; rw [List.length_set]; rfl)⟩
      · cases h
    · cases h
  · unfold ab_lst at h
    split at h
    · split at h
      · rename_i he
        split at h
        · cases h
        · cases h
          exact ⟨List.length_set, ab_sz_set he (by show (List.set _ _ _).length = _; rw [List.length_set]; rfl)⟩
      · cases h
    · cases h
  · unfold ab_as at h
    split at h
    · split at h
      · rename_i he _
        split at h
        · split at h
          · cases h
          · cases h
            exact ⟨List.length_set, ab_sz_set he (by show (List.set _ _ _).length = _; rw [List.length_set]; rfl)⟩
        · cases h
      · cases h
    · cases h
  · unfold ab_al at h
    split at h
    · split at h
      · cases h; exact ⟨rfl, rfl⟩
      · cases h; exact ⟨rfl, rfl⟩
      · cases h; exact ⟨rfl, rfl⟩
      · split at h
        · split at h
          · cases h
          · cases h; exact ⟨rfl, rfl⟩
        · cases h
      · cases h
    · cases h
  · split at h
    · unfold ab_mx at h
      split at h
      · split at h
        · cases h; exact ⟨rfl, rfl⟩
        · cases h
      · cases h
    · split at h
      · unfold ab_mn at h
        split at h
        · split at h
          · cases h; exact ⟨rfl, rfl⟩
          · cases h
        · cases h
      · split at h
        · unfold ab_cy at h
          split at h
          · split at h
            · cases h
            · split at h
              · rename_i he
                split at h
                · rename_i hq
                  cases h
                  exact ⟨List.length_set, ab_sz_set he (ab_cpl hq.1 hq.2)⟩
                · cases h
              · rename_i he
                split at h
                · rename_i hq
                  cases h
                  exact ⟨List.length_set, ab_sz_set he (ab_cpl hq.1 hq.2)⟩
                · cases h
              · cases h
          · cases h
        · cases h
  · split at h
    · unfold ab_oi at h
      split at h
      · split at h
        · cases h; exact ⟨rfl, rfl⟩
        · cases h
      · cases h
    · cases h
  · split at h
    · unfold ab_sl at h
      split at h
      · split at h
        · cases h; exact ⟨rfl, rfl⟩
        · cases h
      · cases h
    · split at h
      · unfold ab_sh at h
        split at h
        · split at h
          · cases h; exact ⟨rfl, rfl⟩
          · cases h
        · cases h
      · cases h
  · split at h
    · cases h; exact ⟨rfl, rfl⟩
    · split at h
      · cases h; exact ⟨rfl, rfl⟩
      · cases h
  · split at h
    · cases h; exact ⟨rfl, rfl⟩
    · cases h
  · split at h
    · cases h; exact ⟨rfl, rfl⟩
    · cases h
  · split at h
    · cases h; exact ⟨rfl, rfl⟩
    · cases h
  · cases h
def ab_nr (v : Option Value) : Prop := ∀ ad ad' : Nat → Nat, (∀ k, 1000000 ≤ k → ad' k = ad k) → v.map (ab_v ad') = v.map (ab_v ad)
theorem ab_big (x : Nat) (h : 2000000 ≤ x) : 1000000 ≤ x := by omega
theorem ab_re_nr {ret : Option FieldType} {ins : Instr} {st : List Value} {v : Option Value} (h : ab_re ret ins st = some v) : ab_nr v := by
  unfold ab_re at h
  split at h
  · split at h
    · split at h
      · cases h; exact fun _ _ _ => rfl
      · split at h
        · cases h; exact fun _ _ _ => rfl
        · cases h
      · cases h
    · cases h
  · split at h
    · split at h
      · cases h; exact fun _ _ _ => rfl
      · cases h
    · cases h
  · split at h
    · split at h
      · cases h; exact fun _ _ _ => rfl
      · cases h
    · cases h
  · split at h
    · split at h
      · split at h
        · rename_i x _ _ hx
          cases h
          exact fun ad ad' e => by
            show some (Value.ref (ad' x)) = some (Value.ref (ad x))
            rw [e x (ab_big x hx)]
        · cases h
      · cases h
    · cases h
  · cases h
theorem ab_fr_le {M : List ab_D} {G : Nat → Option ab_T} {Z : ab_Z} {call : Nat → List Value → List ab_C → Option (Option Value × List ab_C)} {md : ab_D} (hc : ∀ (y : Nat) (As : List Value) (cs : List ab_C) (v : Option Value) (cs2 : List ab_C), call y As cs = some (v, cs2) → cs.length ≤ cs2.length ∧ ab_sz cs ≤ ab_sz cs2 ∧ ab_nr v) :
    ∀ (f : Nat) (pc : Nat) (L : ab_L) (st : List Value) (cs : List ab_C) (v : Option Value) (cs2 : List ab_C), ab_fr M G Z call md f (pc, L, st, cs) = some (v, cs2) → cs.length ≤ cs2.length ∧ ab_sz cs ≤ ab_sz cs2 ∧ ab_nr v := by
  intro f
  induction f with
  | zero => intro pc L st cs v cs2 h; cases h
  | succ f ih =>
    intro pc L st cs v cs2 h
    unfold ab_fr at h
    split at h
    · cases h
    · split at h
      · cases h
      · split at h
        · exact ih _ _ _ _ _ _ h
        · split at h
          · exact ih _ _ _ _ _ _ h
          · split at h
            · rename_i hp
              have h1 := ih _ _ _ _ _ _ h
              have h2 := ab_hp_sz hp
              rw [h2.1, h2.2] at h1
              exact h1
            · split at h
              · rename_i hv
                cases h
                exact ⟨Nat.le_refl _, Nat.le_refl _, ab_re_nr hv⟩
              · split at h
                · split at h
                  · have h1 := ih _ _ _ _ _ _ h
                    rw [List.length_append, ab_sz_app] at h1
                    exact ⟨by omega, by omega, h1.2.2⟩
                  · cases h
                · split at h
                  · cases h
                  · split at h
                    · cases h
                    · split at h
                      · split at h
                        · cases h
                        · rename_i hcl
                          split at h
                          · have h1 := ih _ _ _ _ _ _ h
                            have h2 := hc _ _ _ _ _ hcl
                            exact ⟨Nat.le_trans h2.1 h1.1, Nat.le_trans h2.2.1 h1.2.1, h1.2.2⟩
                          · cases h
                      · cases h
theorem ab_run_le {M : List ab_D} {G : Nat → Option ab_T} {Z : ab_Z} : ∀ (d f y : Nat) (As : List Value) (cs : List ab_C) (v : Option Value) (cs2 : List ab_C), ab_run M G Z d f y As cs = some (v, cs2) → cs.length ≤ cs2.length ∧ ab_sz cs ≤ ab_sz cs2 ∧ ab_nr v := by
  intro d
  induction d with
  | zero => intro f y As cs v cs2 h; cases h
  | succ d ih =>
    intro f y As cs v cs2 h
    unfold ab_run at h
    split at h
    · cases h
    · split at h
      · exact ab_fr_le (fun y As cs v cs2 hc => ih f y As cs v cs2 hc) f _ _ _ _ _ _ h
      · cases h
def ab_WK (D : va_G) (cl : List vw_C) (K : ab_Q) (Cq : ab_X) (U : State) : Prop := va_K D cl (ab_ty K Cq.1) U ∧ va_AO Cq.1 U ∧ ∀ q ∈ Cq.2.1, va_Nw (.methodLinkNest q.1 q.2.1 q.2.2.1 q.2.2.2) U
theorem ab_WK.moved {D : va_G} {cl : List vw_C} {K : ab_Q} {Cq : ab_X} {u U : State} (hW : u.WarmedH U.vm) (h : ab_WK D cl K Cq u) : ab_WK D cl K Cq U := ⟨va_K.moved hW.alike h.1, va_AO.moved hW.alike h.2.1, fun q hq => va_Nw.warmM hW (h.2.2 q hq)⟩
theorem ab_WK.same {D : va_G} {cl : List vw_C} {K : ab_Q} {Cq : ab_X} {u U : State} (e : u.vm = U.vm) (h : ab_WK D cl K Cq u) : ab_WK D cl K Cq U := ⟨va_K.moved (by rw [e]; exact Vm.Alike.refl _) h.1, va_AO.moved (by rw [e]; exact Vm.Alike.refl _) h.2.1, fun q hq => va_Nw.same rfl e (h.2.2 q hq)⟩
def ab_Pc (D : va_G) (cl : List vw_C) (K : ab_Q) (Cq : ab_X) (ad : Nat → Nat) (cs : List ab_C) (sz : Nat) (As : List Value) : Array Value → State → Prop := va_Pc (As.map (ab_v ad)) (fun U => U.heap.size = sz ∧ va_P D cl (ab_w K ad 0 cs) U.heap ∧ ab_WK D cl K Cq U ∧ va_D (fun _ => True) (ab_w K ad 0 cs) ∧ ab_TT Cq.2.2.1 Cq.2.2.2 ad (va_A (ab_w K ad 0 cs) sz) U U.heap)
def ab_Bd (D : va_G) (cl : List vw_C) (K : ab_Q) (Cq : ab_X) (ad : Nat → Nat) (cs : List ab_C) (A : Nat → Prop) (cs2 : List ab_C) (t : State) : Prop := ∃ u : Nat → Nat, (cs2.length = cs.length → u = ad) ∧ (∀ k, k < cs.length ∨ 1000000 ≤ k → u k = ad k) ∧ va_P D cl (ab_w K u 0 cs2) t.heap ∧ ab_WK D cl K Cq t ∧ va_D A (ab_w K u 0 cs2)
def ab_Qc (D : va_G) (cl : List vw_C) (K : ab_Q) (Cq : ab_X) (ad : Nat → Nat) (cs : List ab_C) (sz : Nat) (v : Option Value) (cs2 : List ab_C) : Array Value → State → Outcome → State → Prop := fun _ st o t => (o = .returned (v.map (ab_v ad)) ∧ ab_Bd D cl K Cq ad cs (va_A (ab_w K ad 0 cs) sz) cs2 t) ∧ va_F (va_A (ab_w K ad 0 cs) sz) st t
/-- a method's contract, out of what the machine of worlds says of it -/
def ab_Mt (l : Launch) (D : va_G) (cl : List vw_C) (K : ab_Q) (Cq : ab_X) (Ws : List Jvm.Cond) (md : ab_D) (d : Nat) (As : List Value) (cs : List ab_C) (v : Option Value) (cs2 : List ab_C) : Prop := ∀ (ad : Nat → Nat) (sz : Nat),
  Met l md.1 (.code md.1 md.2.1 md.2.2.1 md.2.2.2.1 :: Ws) { frames := d + 3, cells := cs2.length - cs.length, slots := ab_sz cs2 - ab_sz cs, locals := 100 * d } (ab_Pc D cl K Cq ad cs sz As) (ab_Qc D cl K Cq ad cs sz v cs2) (cs2.length - cs.length) (ab_sz cs2 - ab_sz cs) (va_A (ab_w K ad 0 cs) sz)
theorem ab_blind {D : va_G} {cl : List vw_C} {K : ab_Q} {Cq : ab_X} {ad : Nat → Nat} {cs : List ab_C} {sz : Nat} {As : List Value} : FrameBlind (ab_Pc D cl K Cq ad cs sz As) := fun a U g mk q => by
  obtain ⟨q0, q1, qP, qK, qD, qT⟩ := q
  exact ⟨q0, q1, qP, ab_WK.same (u := U) (U := U.calling g mk a) rfl qK, qD, qT.go (U := U.calling g mk a) (fun _ _ _ => rfl) (Or.inr rfl) (fun _ h => h)⟩
section ABS5
variable {p : Program} {l : Launch} {e : Env} {R : Room} {s : State} {m : MethodId} {args : Array Value} {below : List Frame} {meth : Method} {c : Code} {H : Heap} {locs : List Loc} {cells slots : Nat} {Q : State → Prop}
variable {cc : ByteArray} {pc : Nat} {ls : Array Slot} {D : va_G} {cl : List vw_C} {A : Nat → Prop} {H0 : Heap} {K : ab_Q} {Cq : ab_X} {own : String} {ad : Nat → Nat} {cs cs2 : List ab_C} {st st2 : List Value} {Ts Ws : List Jvm.Cond} {G : Nat → Option ab_T} {M : List ab_D} {len : Nat}
theorem ab_call {rest st0 : List Value} {mc ms : Nat} {v : Option Value} {a : Array Value} {free : Addr → Prop} (hr : va_Run p l e R s m args below meth c H locs cells slots mc ms (F0 m pc ls st0) rest (ab_Qc D cl K Cq ad cs H.size v cs2 a) free)
    (hS : va_S A H0 H locs) (hA : ∀ q, va_A (ab_w K ad 0 cs) H.size q → A q) (hf : ∀ q, free q → A q)
    (kk : ∀ (u : Nat → Nat) (H1 : Heap) (locs1 : List Loc), (cs2.length = cs.length → u = ad) → (∀ k, k < cs.length ∨ 1000000 ≤ k → u k = ad k) → va_P D cl (ab_w K u 0 cs2) H1 → va_D A (ab_w K u 0 cs2) → va_S A H0 H1 locs1 → W p l e R s m args below meth c H1 locs1 (cells + mc) (slots + ms) Q (F0 m (pc + 3) ls ((v.map (ab_v ad)).toList ++ rest))) : W p l e R s m args below meth c H locs cells slots Q (F0 m pc ls st0) := by
  intro T hT X
  obtain ⟨v', st₀, t, T', L, h0, X', hL, e1, e2, ⟨⟨hv, u, b1, b2, b3, b4, b5⟩, hz, hk⟩, st⟩ := hr T hT X
  cases hv
  rw [h0] at hz hk
  obtain ⟨t2, a1, c1⟩ := kk u T'.heap (locs ++ L) b1 b2 (by rw [e1]; exact b3) (b5.weaken (fun _ _ _ h => hA _ h))
    ⟨Nat.le_trans hS.1 (by rw [e1]; exact hz), fun q h1 h2 => by rw [e1, hk q (Nat.lt_of_lt_of_le h1 hS.1) (fun z => h2 (hA q z))]; exact hS.2.1 q h1 h2, fun q hq => by
      rcases List.mem_append.mp hq with h | h
      · exact hS.2.2 q h
      · exact hf _ (hL q h)⟩ T' rfl X'
  exact ⟨t2, st t2 a1, c1⟩
/-- what is asked of the tables for a method -/
def ab_ok (Nl : ab_N) (Sl : List (String × String)) (M : List ab_D) (G : Nat → Option ab_T) (Ws : List Jvm.Cond) (md : ab_D) : Prop :=
  plainName md.1.cls = true ∧ (md.1.cls ≠ "java/lang/invoke/MethodHandle" ∧ md.1.cls ≠ "java/lang/invoke/VarHandle" ∧ (parseMethodDescriptor md.1.desc).map (fun d => d.parameters.length) = some md.2.2.2.2.2.1) ∧ Cond.code md.1 md.2.1 md.2.2.1 md.2.2.2.1 ∈ Ws ∧ md.2.2.1 ≤ 81 ∧ (md.2.2.2.2.2.2.1 = true → md.1.name = "<init>") ∧
  (∀ C T N ty, G md.2.2.2.2.1 = some (C, T, N, ty) → C = md.1.cls) ∧ ∀ (pc : Nat) (ins : Instr) (len : Nat) (k : ab_K) (ps : List Nat), ab_at md pc = some (ins, len, k, ps) → decode md.2.1 pc = .ok (ins, len) ∧ (∀ w ∈ ab_wd Sl M G md.1.cls ins k, w ∈ Ws) ∧ ab_nd Nl Sl M md.1.cls ins k
end ABS5
