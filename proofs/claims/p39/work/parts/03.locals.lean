/-! locals -/
def ab_h (ad : Nat → Nat) (ls : Array Slot) (nL : Nat) (L : ab_L) : Prop := L.length = nL ∧ ls.size = nL ∧ lv_wf ls ∧ ∀ (k : Nat) (v : Value), L[k]? = some (some v) → ls[k]? = some (.val (ab_v ad v))
def ab_ll (ad : Nat → Nat) : Nat → ab_L → List (Nat × Value)
  | _, [] => []
  | i, none :: r => ab_ll ad (i + 1) r
  | i, some v :: r => (i, ab_v ad v) :: ab_ll ad (i + 1) r
theorem ab_ll_mem (ad : Nat → Nat) : ∀ (L : ab_L) (i : Nat) (q : Nat × Value), q ∈ ab_ll ad i L ↔ ∃ (k : Nat) (v : Value), L[k]? = some (some v) ∧ q = (i + k, ab_v ad v)
  | [], i, q => ⟨fun h => by simp [ab_ll] at h, fun ⟨k, v, h, _⟩ => by simp at h⟩
  | none :: r, i, q => by
    rw [show ab_ll ad i (none :: r) = ab_ll ad (i + 1) r from rfl, ab_ll_mem ad r (i + 1) q]
    constructor
    · rintro ⟨k, v, h, rfl⟩
      exact ⟨k + 1, v, by simpa using h, by rw [show i + 1 + k = i + (k + 1) by omega]⟩
    · rintro ⟨k, v, h, rfl⟩
      cases k with
      | zero => simp at h
      | succ k => exact ⟨k, v, by simpa using h, by rw [show i + 1 + k = i + (k + 1) by omega]⟩
  | some w :: r, i, q => by
    rw [show ab_ll ad i (some w :: r) = (i, ab_v ad w) :: ab_ll ad (i + 1) r from rfl, List.mem_cons, ab_ll_mem ad r (i + 1) q]
    constructor
    · rintro (rfl | ⟨k, v, h, rfl⟩)
      · exact ⟨0, w, rfl, rfl⟩
      · exact ⟨k + 1, v, by simpa using h, by rw [show i + 1 + k = i + (k + 1) by omega]⟩
    · rintro ⟨k, v, h, rfl⟩
      cases k with
      | zero => 
        have h : some w = some v := by simpa using h
        cases h
        exact Or.inl rfl
      | succ k => exact Or.inr ⟨k, v, by simpa using h, by rw [show i + 1 + k = i + (k + 1) by omega]⟩
theorem ab_h_has {ad : Nat → Nat} {ls : Array Slot} {nL : Nat} {L : ab_L} (h : ab_h ad ls nL L) : lv_has ls nL (ab_ll ad 0 L) := by
  refine ⟨h.2.1, h.2.2.1, fun q hq => ?_⟩
  obtain ⟨k, v, hk, rfl⟩ := (ab_ll_mem ad L 0 q).mp hq
  show ls[0 + k]? = _
  rw [Nat.zero_add]
  exact h.2.2.2 k v hk
theorem ab_lg_some {L : ab_L} {i : Nat} {v : Value} (h : ab_lg L i = some v) : L[i]? = some (some v) := by
  unfold ab_lg at h
  split at h
  · rename_i o ho
    rw [ho, h]
  · cases h
theorem ab_h_at {ad : Nat → Nat} {ls : Array Slot} {nL : Nat} {L : ab_L} (h : ab_h ad ls nL L) {i : Nat} {v : Value} (hi : ab_lg L i = some v) : ls[i]? = some (.val (ab_v ad v)) := h.2.2.2 i v (ab_lg_some hi)
theorem ab_c2_no {L : ab_L} {k : Nat} {v : Value} (h : ab_c2 (ab_lg L k) = false) (hk : L[k]? = some (some v)) : ¬ v.category = 2 := by
  rw [show ab_lg L k = some v by unfold ab_lg; rw [hk]] at h
  cases v <;> simp_all [ab_c2, Value.category]
theorem ab_h_st1 {ad : Nat → Nat} {ls : Array Slot} {nL : Nat} {L L2 : ab_L} {i : Nat} {v : Value} (h : ab_h ad ls nL L) (hs : ab_l1 L i v = some L2) : i < nL ∧ ∀ ls' : Array Slot, lv_has ls' nL ((i, ab_v ad v) :: (ab_ll ad 0 L).filter (fun q => !(q.1 == i) && !(q.1 + 1 == i && q.2.category == 2))) → ab_h ad ls' nL L2 := by
  unfold ab_l1 at hs
  split at hs
  · rename_i hc
    cases hs
    refine ⟨h.1 ▸ hc.1, fun ls' hl => ⟨by rw [List.length_set]; exact h.1, hl.1, hl.2.1, fun k w hk => ?_⟩⟩
    by_cases hki : k = i
    · subst hki
      rw [List.getElem?_set_self hc.1] at hk
      cases hk
      exact hl.2.2 (k, ab_v ad v) List.mem_cons_self
    · rw [List.getElem?_set_ne (fun q => hki q.symm)] at hk
      refine hl.2.2 (k, ab_v ad w) (List.mem_cons_of_mem _ (List.mem_filter.mpr ⟨(ab_ll_mem ad L 0 _).mpr ⟨k, w, hk, by rw [Nat.zero_add]⟩, ?_⟩))
      simp only [Bool.and_eq_true, Bool.not_eq_true', beq_eq_false_iff_ne, ne_eq, Bool.and_eq_false_iff]
      refine ⟨hki, ?_⟩
      by_cases hk1 : k + 1 = i
      · refine Or.inr (fun q => ?_)
        rw [ab_v_cat] at q
        exact ab_c2_no (hc.2 (by omega)) (by rw [show i - 1 = k by omega]; exact hk) q
      · exact Or.inl hk1
  · cases hs
theorem ab_h_st2 {ad : Nat → Nat} {ls : Array Slot} {nL : Nat} {L L2 : ab_L} {i : Nat} {v : Value} (h : ab_h ad ls nL L) (hs : ab_l2 L i v = some L2) : i + 1 < nL ∧ ∀ ls' : Array Slot, lv_has ls' nL ((i, ab_v ad v) :: (ab_ll ad 0 L).filter (fun q => !(q.1 == i) && (!(q.1 == i + 1) && !(q.1 + 1 == i && q.2.category == 2)))) → ab_h ad ls' nL L2 := by
  unfold ab_l2 at hs
  split at hs
  · rename_i hc
    cases hs
    refine ⟨h.1 ▸ hc.1, fun ls' hl => ⟨by rw [List.length_set, List.length_set]; exact h.1, hl.1, hl.2.1, fun k w hk => ?_⟩⟩
    by_cases hk1 : k = i + 1
    · subst hk1
      rw [List.getElem?_set_self (by rw [List.length_set]; exact hc.1)] at hk
      cases hk
    · rw [List.getElem?_set_ne (fun q => hk1 q.symm)] at hk
      by_cases hki : k = i
      · subst hki
        rw [List.getElem?_set_self (by omega)] at hk
        cases hk
        exact hl.2.2 (k, ab_v ad v) List.mem_cons_self
      · rw [List.getElem?_set_ne (fun q => hki q.symm)] at hk
        refine hl.2.2 (k, ab_v ad w) (List.mem_cons_of_mem _ (List.mem_filter.mpr ⟨(ab_ll_mem ad L 0 _).mpr ⟨k, w, hk, by rw [Nat.zero_add]⟩, ?_⟩))
        simp only [Bool.and_eq_true, Bool.not_eq_true', beq_eq_false_iff_ne, ne_eq, Bool.and_eq_false_iff]
        refine ⟨hki, hk1, ?_⟩
        by_cases hk1 : k + 1 = i
        · refine Or.inr (fun q => ?_)
          rw [ab_v_cat] at q
          exact ab_c2_no (hc.2 (by omega)) (by rw [show i - 1 = k by omega]; exact hk) q
        · exact Or.inl hk1
  · cases hs
section ABS2
variable {p : Program} {l : Launch} {e : Env} {R : Room} {s : State} {m : MethodId} {args : Array Value} {below : List Frame} {meth : Method} {c : Code} {H : Heap} {locs : List Loc} {cells slots : Nat} {Q : State → Prop}
variable {cc : ByteArray} {pc : Nat} {ls : Array Slot} {rest : List Value}
theorem ab_ldi {L : ab_L} {i : Nat} {v : Value} (h : ab_ld 0 L i = some v) : ∃ x : Int32, v = .int x ∧ ab_lg L i = some (.int x) := by
  unfold ab_ld at h
  split at h
  · rename_i hx _ e
    cases h
    exact ⟨_, rfl, e⟩
  all_goals first | (cases h; done) | (rename_i q _ _; cases q; done) | (rename_i q _; cases q; done) | (rename_i q; cases q; done)
theorem ab_ldl {L : ab_L} {i : Nat} {v : Value} (h : ab_ld 1 L i = some v) : ∃ x : Int64, v = .long x ∧ ab_lg L i = some (.long x) := by
  unfold ab_ld at h
  split at h
  all_goals first | (cases h; done) | (cases h; exact ⟨_, rfl, by assumption⟩) | omega
theorem ab_lda {L : ab_L} {i : Nat} {v : Value} (h : ab_ld 2 L i = some v) : ∃ x : Nat, v = .ref x ∧ ab_lg L i = some (.ref x) := by
  unfold ab_ld at h
  split at h
  all_goals first | (cases h; done) | (cases h; exact ⟨_, rfl, by assumption⟩) | omega
theorem ab_soi {L L2 : ab_L} {i : Nat} {v : Value} (h : ab_so 0 L i v = some L2) : ∃ x : Int32, v = .int x ∧ ab_l1 L i (.int x) = some L2 := by
  unfold ab_so at h
  split at h
  all_goals first | (exact ⟨_, rfl, h⟩) | (cases h; done) | omega
theorem ab_sol {L L2 : ab_L} {i : Nat} {v : Value} (h : ab_so 1 L i v = some L2) : ∃ x : Int64, v = .long x ∧ ab_l2 L i (.long x) = some L2 := by
  unfold ab_so at h
  split at h
  all_goals first | (exact ⟨_, rfl, h⟩) | (cases h; done) | omega
theorem ab_soa {L L2 : ab_L} {i : Nat} {v : Value} (h : ab_so 2 L i v = some L2) : ∃ x : Nat, v = .ref x ∧ ab_l1 L i (.ref x) = some L2 := by
  unfold ab_so at h
  split at h
  all_goals first | (exact ⟨_, rfl, h⟩) | (cases h; done) | omega
set_option maxHeartbeats 4000000 in
theorem ab_lo_ok (hx : p.tables.exec = Jvm.exec) (hb : c.code = cc) {ins : Instr} {len nL : Nat} {L L2 : ab_L} {st st2 : List Value} (hdg : decode cc pc = .ok (ins, len)) (hln : ab_ln ins = len ∨ ab_ln ins = 0) (h : ab_lo ins L st = some (L2, st2)) (ad : Nat → Nat) (hL : ab_h ad ls nL L)
    (k : ∀ ls' : Array Slot, ab_h ad ls' nL L2 → W p l e R s m args below meth c H locs cells slots Q (F0 m (pc + len) ls' (st2.map (ab_v ad)))) : W p l e R s m args below meth c H locs cells slots Q (F0 m pc ls (st.map (ab_v ad))) := by
  unfold ab_lo at h
  split at h
  · rename_i t i hk
    split at h
    · rename_i v hv
      cases h
      unfold ab_lk at hk
      split at hk <;> cases hk
      · obtain ⟨x, rfl, hg⟩ := ab_ldi hv
        obtain rfl := ab_len (n := 1) rfl hln
        exact lv_iload hx hb hdg (ab_h_at hL hg) (k ls hL)
      · obtain ⟨x, rfl, hg⟩ := ab_ldi hv
        obtain rfl := ab_len (n := 0) rfl hln
        exact lv_iload_n hx hb hdg rfl (ab_h_at hL hg) (k ls hL)
      · obtain ⟨x, rfl, hg⟩ := ab_ldl hv
        obtain rfl := ab_len (n := 1) rfl hln
        exact lv_lload hx hb hdg (ab_h_at hL hg) (k ls hL)
      · obtain ⟨x, rfl, hg⟩ := ab_ldl hv
        obtain rfl := ab_len (n := 0) rfl hln
        exact lv_lload_n hx hb hdg rfl (ab_h_at hL hg) (k ls hL)
      · obtain ⟨x, rfl, hg⟩ := ab_lda hv
        obtain rfl := ab_len (n := 1) rfl hln
        exact lv_aload hx hb hdg (ab_h_at hL hg) (k ls hL)
      · obtain ⟨x, rfl, hg⟩ := ab_lda hv
        obtain rfl := ab_len (n := 0) rfl hln
        exact lv_aload_n hx hb hdg rfl (ab_h_at hL hg) (k ls hL)
    · cases h
  · rename_i t i hk
    split at h
    · rename_i v r
      split at h
      · rename_i L3 hs
        cases h
        unfold ab_lk at hk
        split at hk <;> cases hk
        · obtain ⟨x, rfl, hg⟩ := ab_soi hs
          obtain rfl := ab_len (n := 1) rfl hln
          obtain ⟨h1, h2⟩ := ab_h_st1 hL hg
          exact lv_istore hx hb hdg (ab_h_has hL) h1 rfl (fun ls' hl => k ls' (h2 ls' hl))
        · obtain ⟨x, rfl, hg⟩ := ab_soi hs
          obtain rfl := ab_len (n := 0) rfl hln
          obtain ⟨h1, h2⟩ := ab_h_st1 hL hg
          exact lv_istore_n hx hb hdg rfl (ab_h_has hL) h1 rfl (fun ls' hl => k ls' (h2 ls' hl))
        · obtain ⟨x, rfl, hg⟩ := ab_sol hs
          obtain rfl := ab_len (n := 1) rfl hln
          obtain ⟨h1, h2⟩ := ab_h_st2 hL hg
          exact lv_lstore hx hb hdg (ab_h_has hL) h1 rfl (fun ls' hl => k ls' (h2 ls' hl))
        · obtain ⟨x, rfl, hg⟩ := ab_sol hs
          obtain rfl := ab_len (n := 0) rfl hln
          obtain ⟨h1, h2⟩ := ab_h_st2 hL hg
          exact lv_lstore_n hx hb hdg rfl (ab_h_has hL) h1 rfl (fun ls' hl => k ls' (h2 ls' hl))
        · obtain ⟨x, rfl, hg⟩ := ab_soa hs
          obtain rfl := ab_len (n := 1) rfl hln
          obtain ⟨h1, h2⟩ := ab_h_st1 hL hg
          exact lv_astore hx hb hdg (ab_h_has hL) h1 rfl (fun ls' hl => k ls' (h2 ls' hl))
        · obtain ⟨x, rfl, hg⟩ := ab_soa hs
          obtain rfl := ab_len (n := 0) rfl hln
          obtain ⟨h1, h2⟩ := ab_h_st1 hL hg
          exact lv_astore_n hx hb hdg rfl (ab_h_has hL) h1 rfl (fun ls' hl => k ls' (h2 ls' hl))
      · cases h
    · cases h
  · split at h
    · rename_i i n _
      split at h
      · rename_i x hg
        split at h
        · rename_i L3 hs
          cases h
          obtain rfl := ab_len (n := 2) rfl hln
          obtain ⟨h1, h2⟩ := ab_h_st1 hL hs
          obtain ⟨j, hj⟩ := List.getElem?_of_mem ((ab_ll_mem ad L 0 (i, .int x)).mpr ⟨i, .int x, ab_lg_some hg, by rw [Nat.zero_add]; rfl⟩)
          exact lv_iinc hx hb hdg (ab_h_has hL) hj rfl h1 rfl (fun ls' hl => k ls' (h2 ls' hl))
        · cases h
      · cases h
    · cases h
end ABS2
