/-! a frame's walk, out of the machine of worlds -/
theorem ab_ag_args (ad : Nat → Nat) : ∀ (As : List Value) (i k : Nat) (v : Value), (ab_ag As)[k]? = some (some v) → (i + k, ab_v ad v) ∈ lv_args i (As.map (ab_v ad))
  | [], i, k, v, h => by simp [ab_ag] at h
  | a :: r, i, k, v, h => by
    unfold ab_ag at h
    rw [List.map_cons]
    unfold lv_args
    rw [ab_v_cat]
    split at h
    · rename_i hc
      rw [if_pos hc]
      match k, h with
      | 0, h => 
        cases h
        exact List.mem_cons_self
      | 1, h => cases h
      | k + 2, h => 
        rw [show i + (k + 2) = (i + 2) + k by omega]
        exact List.mem_cons_of_mem _ (ab_ag_args ad r (i + 2) k v h)
    · rename_i hc
      rw [if_neg hc]
      match k, h with
      | 0, h => 
        cases h
        exact List.mem_cons_self
      | k + 1, h => 
        rw [show i + (k + 1) = (i + 1) + k by omega]
        exact List.mem_cons_of_mem _ (ab_ag_args ad r (i + 1) k v h)
theorem ab_ag_len (ad : Nat → Nat) : ∀ (As : List Value), (lg_sl (As.map (ab_v ad))).length = (ab_ag As).length
  | [] => rfl
  | a :: r => by
    have ih := ab_ag_len ad r
    unfold lg_sl at ih ⊢
    unfold ab_ag
    rw [List.map_cons, List.flatMap_cons, ab_v_cat, List.length_append, ih]
    split
    · show 2 + _ = _ + 1 + 1
      omega
    · show 1 + _ = _ + 1
      omega
theorem ab_h_entry (ad : Nat → Nat) (As : List Value) {nL : Nat} (h : (ab_ag As).length ≤ nL) : ab_h ad ((lg_sl (As.map (ab_v ad)) ++ List.replicate (nL - (lg_sl (As.map (ab_v ad))).length) Slot.unset).toArray) nL (ab_ag As ++ List.replicate (nL - (ab_ag As).length) none) := by
  have hl := lv_entry (As.map (ab_v ad)) (n := nL) (by rw [ab_ag_len]; exact h)
  refine ⟨by simp; omega, hl.1, hl.2.1, fun k v hk => ?_⟩
  by_cases hkl : k < (ab_ag As).length
  · rw [List.getElem?_append_left hkl] at hk
    have hm := ab_ag_args ad As 0 k v hk
    rw [Nat.zero_add] at hm
    exact hl.2.2 _ hm
  · rw [List.getElem?_append_right (by omega), List.getElem?_replicate] at hk
    split at hk <;> cases hk
theorem ab_args_rev {st : List Value} {n : Nat} : st = (st.take n).reverse.reverse ++ st.drop n := by rw [List.reverse_reverse, List.take_append_drop]
section ABS6
variable {p : Program} {l : Launch} {e : Env} {s : State} {m : MethodId} {args : Array Value} {below : List Frame} {meth : Method} {c : Code} {D : va_G} {cl : List vw_C} {K : ab_Q} {Cq : ab_X} {Ts Ws : List Jvm.Cond} {G : Nat → Option ab_T} {M : List ab_D} {Z : ab_Z} {d : Nat} {md : ab_D}
set_option maxHeartbeats 8000000 in
theorem ab_ca_ok {Q : State → Prop} {R : Room} {own : String} {cc : ByteArray} {nL pc cells slots : Nat} {H : Heap} {locs : List Loc} {ls : Array Slot} {A : Nat → Prop} {ad : Nat → Nat} {cs cs2 : List ab_C} {st r As : List Value} {v : Option Value} {ins : Instr} {len y : Nat} {k : ab_K} {my : ab_D} {L : ab_L}
    (hx : p.tables.exec = Jvm.exec) (hb : c.code = cc) (hml : c.maxLocals = nL) (hown : s.vm.findClass own = some m.cls) (hts : ∀ w ∈ Ts, w.before args s = true) (hWs : GoodIn Ts Ws) (hG : ab_cg cl Ts G) (hWK : ab_WK D cl K Cq s) (hTT : ab_TT Cq.2.2.1 Cq.2.2.2 ad A s s.heap)
    (hdg : decode cc pc = .ok (ins, len)) (hln : ab_ln ins = len ∨ ab_ln ins = 0) (hwd : ∀ w ∈ ab_wd Cq.2.2.2 M G own ins k, w ∈ Ws) (hnd : ab_nd Cq.2.1 Cq.2.2.2 M own ins k) (hca : ab_ca ins k st = some (y, As, r)) (hmy : M[y]? = some my) (hok : ab_ok Cq.2.1 Cq.2.2.2 M G Ws my)
    (hsm : ab_sm r ≤ 8) (hnp : As.length = my.2.2.2.2.2.1 + cond (k.1 == 4) 0 1) (hrv : k.1 = 3 → ab_rv G my.2.2.2.2.1 As cs = true) (hsp : k.1 = 5 ∨ k.1 = 15 → my.2.2.2.2.2.2.1 = true ∧ my.2.2.2.1 = none ∧ ab_rf As = true)
    (hMt : ab_Mt l D cl K Cq Ws my d As cs v cs2) (hfr : d + 4 ≤ R.frames) (hlo : 100 * (d + 1) ≤ R.locals) (hP : va_P D cl (ab_w K ad 0 cs) H) (hD : va_D A (ab_w K ad 0 cs)) (hS : va_S A s.heap H locs) (hA : ∀ q, s.heap.size ≤ q → A q) (hL : ab_h ad ls nL L)
    (hce : cells + (cs2.length - cs.length) ≤ R.cells) (hsl : slots + (ab_sz cs2 - ab_sz cs) ≤ R.slots)
    (kk : ∀ (u : Nat → Nat) (H1 : Heap) (locs1 : List Loc), (cs2.length = cs.length → u = ad) → (∀ k, k < cs.length ∨ 1000000 ≤ k → u k = ad k) → va_P D cl (ab_w K u 0 cs2) H1 → va_D A (ab_w K u 0 cs2) → va_S A s.heap H1 locs1 → W p l e R s m args below meth c H1 locs1 (cells + (cs2.length - cs.length)) (slots + (ab_sz cs2 - ab_sz cs)) Q (F0 m (pc + 3) ls ((v.map (ab_v ad)).toList ++ r.map (ab_v ad)))) : W p l e R s m args below meth c H locs cells slots Q (F0 m pc ls (st.map (ab_v ad))) := by
  obtain ⟨o1, o2, o3, o4, o5, o6, o7⟩ := hok
  have hA1 : ∀ q, va_A (ab_w K ad 0 cs) H.size q → A q := fun q h => by
    rcases h with ⟨k, e, h⟩ | h
    · exact hD.2 k _ h
    · exact hA q (Nat.le_trans hS.1 h)
  have hpre : ∀ U : State, U.heap = H → s.WarmedH U.vm → ab_Pc D cl K Cq ad cs H.size As (As.map (ab_v ad)).toArray U := fun U hU hW => ⟨rfl, by rw [hU], by rw [hU]; exact hP, hWK.moved hW, hD.weaken (fun _ _ _ _ => trivial), by rw [hU]; exact hTT.go hS.2.1 (Or.inl hW) hA1⟩
  have hgood : ∀ (ws : List Jvm.Cond), (∀ w ∈ ws, w ∈ Ws) → GoodIn Ts ws := fun ws h w hw => hWs w (h w hw)
  have hcons : ∀ w ∈ (Cond.code my.1 my.2.1 my.2.2.1 my.2.2.2.1 :: Ws), w ∈ Ws := fun w h => by
    rcases List.mem_cons.mp h with rfl | h
    · exact o3
    · exact h
  have hroom : d + 3 + 1 ≤ R.frames ∧ 8 + (my.2.2.1 + 11) + 100 * d ≤ R.locals := ⟨hfr, by omega⟩
  have hrm : 2 * (F0 m pc ls (st.map (ab_v ad))).monitorRoom + ((r.map (ab_v ad)).map fun v => v.category).sum ≤ 8 := by
    rw [ab_sm_map]
    show 2 * 0 + _ ≤ 8
    omega
  have hM := hMt ad H.size
  unfold ab_ca at hca
  split at hca
  · rename_i i
    split at hca
    · rename_i hk
      cases hca
      obtain rfl := ab_len (n := 2) rfl hln
      have hw : ∀ w ∈ ([.methodLink own i my.1, .instanceMethod my.1, .selects my.1.cls my.1 my.1, .initialized my.1.cls] : List Jvm.Cond), w ∈ Ws := fun w q => hwd w (by unfold ab_wd; dsimp only; rw [if_neg (by omega), if_neg (by omega), hmy]; exact q)
      have hr3 := hrv hk.1
      have hst : st = (st.take (k.2.2 + 1)).reverse.reverse ++ st.drop (k.2.2 + 1) := ab_args_rev
      generalize hAs : (st.take (k.2.2 + 1)).reverse = As at *
      generalize hrr : st.drop (k.2.2 + 1) = r at *
      subst hst
      unfold ab_rv at hr3
      split at hr3
      · rename_i a As'
        split at hr3
        · rename_i ci fs he
          rw [Bool.and_eq_true] at hr3
          have hci := of_decide_eq_true hr3.1
          subst hci
          obtain ⟨⟨C, T, N, ty⟩, hg⟩ := Option.isSome_iff_exists.mp hr3.2
          have hC := o6 C T N ty hg
          subst hC
          obtain ⟨h1, -⟩ := hG _ _ _ _ _ hg
          have hn : (As'.map (ab_v ad)).length = my.2.2.2.2.2.1 := by
            rw [List.length_map]
            rw [hk.1] at hnp
            simpa using hnp
          refine ab_call (va_runV (As := As'.map (ab_v ad)) (rest := r.map (ab_v ad)) (b := ad a) ⟨hx, hb, hml, hown, hts⟩ hM (cwV my.2.2.2.2.2.1 hts (hgood _ (fun w h => ?_)) rfl rfl rfl ⟨rfl, o2⟩ hroom) ⟨ab_blind, va_recv hWK.1 hP h1 (ab_w_at he), hpre⟩ rfl hn hL.2.1 ?_ hrm hdg ⟨hce, hsl⟩) hS hA1 (fun q h => hA1 q h) kk
          · rcases List.mem_append.mp h with h | h
            · exact hw w h
            · exact hcons w h
          · show List.map (ab_v ad) _ = _
            simp [ab_v]
        · cases hr3
      · cases hr3
    · cases hca
  · rename_i i
    split at hca
    · rename_i hk
      cases hca
      obtain rfl := ab_len (n := 2) rfl hln
      have hw : ∀ w ∈ ([.methodLink own i my.1, .static my.1, .initialized my.1.cls] : List Jvm.Cond), w ∈ Ws := fun w q => hwd w (by unfold ab_wd; dsimp only; rw [if_neg (by omega), if_neg (by omega), if_neg (by omega), hmy]; exact q)
      have hst : st = (st.take k.2.2).reverse.reverse ++ st.drop k.2.2 := ab_args_rev
      generalize hAs : (st.take k.2.2).reverse = As at *
      generalize hrr : st.drop k.2.2 = r at *
      subst hst
      have hn : (As.map (ab_v ad)).length = my.2.2.2.2.2.1 := by
        rw [List.length_map]
        rw [hk.1] at hnp
        simpa using hnp
      refine ab_call (va_runS (As := As.map (ab_v ad)) (rest := r.map (ab_v ad)) ⟨hx, hb, hml, hown, hts⟩ hM (va_cwS my.2.2.2.2.2.1 hts (hgood _ (fun w h => ?_)) rfl rfl rfl o2 hroom) ⟨ab_blind, hpre⟩ rfl hn hL.2.1 ?_ hrm hdg ⟨hce, hsl⟩) hS hA1 (fun q h => hA1 q h) kk
      · rcases List.mem_append.mp h with h | h
        · exact hw w h
        · exact hcons w h
      · show List.map (ab_v ad) _ = _
        simp
    · cases hca
  · rename_i i
    split at hca
    · rename_i hk
      cases hca
      obtain rfl := ab_len (n := 2) rfl hln
      obtain ⟨h51, h52, h53⟩ := hsp hk.1
      have hst : st = (st.take (k.2.2 + 1)).reverse.reverse ++ st.drop (k.2.2 + 1) := ab_args_rev
      generalize hAs : (st.take (k.2.2 + 1)).reverse = As at *
      generalize hrr : st.drop (k.2.2 + 1) = r at *
      subst hst
      unfold ab_rf at h53
      split at h53
      · rename_i a As'
        have hn : (As'.map (ab_v ad)).length = my.2.2.2.2.2.1 := by
          rw [List.length_map]
          rcases hk.1 with hk1 | hk1 <;> rw [hk1] at hnp <;> simpa using hnp
        rw [h52] at hM hcons
        have hst : List.map (ab_v ad) ((Value.ref a :: As').reverse ++ r) = (As'.map (ab_v ad)).reverse ++ Value.ref (ad a) :: r.map (ab_v ad) := by simp [ab_v]
        rcases hk.1 with hk1 | hk1
        · have hw : ∀ w ∈ ([.methodLink own i my.1, .instanceMethod my.1, .initialized my.1.cls] : List Jvm.Cond), w.before args s = true := fun w q => hts w (hWs w (hwd w (by unfold ab_wd; dsimp only; rw [if_neg (by omega), if_neg (by omega), hmy]; exact q))).1
          exact ab_call (va_runI (As := As'.map (ab_v ad)) (rest := r.map (ab_v ad)) (b := ad a) ⟨hx, hb, hml, hown, hts⟩ hM (cwI my.2.2.2.2.2.1 hts (hgood _ hcons) rfl rfl rfl (hw _ (by simp)) (hw _ (by simp)) (hw _ (by simp)) (o5 h51) ⟨o2.1, o2.2.1, o2.2.2⟩ hroom) ⟨ab_blind, hpre⟩ rfl hn hL.2.1 hst hrm hdg ⟨hce, hsl⟩) hS hA1 (fun q h => hA1 q h) kk
        · have hw : ∀ w ∈ ([.instanceMethod my.1, .initialized my.1.cls] : List Jvm.Cond), w.before args s = true := fun w q => hts w (hWs w (hwd w (by unfold ab_wd; dsimp only; rw [if_neg (by omega), if_pos hk1, hmy]; exact q))).1
          obtain ⟨host, hh⟩ := hnd.1 i my rfl hk1 hmy
          exact ab_call (va_runIN (As := As'.map (ab_v ad)) (rest := r.map (ab_v ad)) (b := ad a) ⟨hx, hb, hml, hown, hts⟩ hM ⟨va_cnB my.2.2.2.2.2.1 hts (hgood _ hcons) rfl rfl rfl (hWK.2.2 _ hh) (hw _ (by simp)) ⟨o2.1, o2.2.1, o2.2.2⟩ hroom, o5 h51, hw _ (by simp)⟩ ⟨ab_blind, hpre⟩ rfl hn hL.2.1 hst hrm hdg ⟨hce, hsl⟩) hS hA1 (fun q h => hA1 q h) kk
      · cases h53
    · cases hca
  · cases hca
/-- what stands at a method's end -/
def ab_En (p : Program) (l : Launch) (e : Env) (R : Room) (s : State) (m : MethodId) (args : Array Value) (below : List Frame) (meth : Method) (c : Code) (Q : State → Prop) (D : va_G) (cl : List vw_C) (K : ab_Q) (md : ab_D) (ad0 : Nat → Nat) (cs0 : List ab_C) (A : Nat → Prop) (v : Option Value) (cs2 : List ab_C) : Prop :=
  ∀ (pc : Nat) (ins : Instr) (len : Nat) (st : List Value) (ad : Nat → Nat) (H : Heap) (locs : List Loc) (ls : Array Slot), decode md.2.1 pc = .ok (ins, len) → (ab_ln ins = len ∨ ab_ln ins = 0) → ab_re md.2.2.2.1 ins st = some v → (cs2.length = cs0.length → ad = ad0) → (∀ k, k < cs0.length ∨ 1000000 ≤ k → ad k = ad0 k) →
    va_P D cl (ab_w K ad 0 cs2) H → va_D A (ab_w K ad 0 cs2) → va_S A s.heap H locs → W p l e R s m args below meth c H locs (cs2.length - cs0.length) (ab_sz cs2 - ab_sz cs0) Q (F0 m pc ls (st.map (ab_v ad)))
set_option maxHeartbeats 8000000 in
theorem ab_fr_W {call : Nat → List Value → List ab_C → Option (Option Value × List ab_C)} {cs0 cs2 : List ab_C} {ad0 : Nat → Nat} {v : Option Value} {R : Room} {Q : State → Prop} {A : Nat → Prop}
    (hx : p.tables.exec = Jvm.exec) (hb : c.code = md.2.1) (hml : c.maxLocals = md.2.2.1) (hown : s.vm.findClass md.1.cls = some m.cls) (hI : md.2.2.2.2.2.2.1 = true → meth.name = "<init>") (hts : ∀ w ∈ Ts, w.before args s = true) (hWs : GoodIn Ts Ws) (hG : ab_cg cl Ts G) (hcq : ∃ T N ty, G Z.1 = some (Cq.1, T, N, ty)) (hZ : Z.2 = Cq.2.2.1) (hWK : ab_WK D cl K Cq s)
    (howG : ∀ C T N ty, G md.2.2.2.2.1 = some (C, T, N, ty) → C = md.1.cls) (hmd : ∀ (pc : Nat) (ins : Instr) (len : Nat) (k : ab_K) (ps : List Nat), ab_at md pc = some (ins, len, k, ps) → decode md.2.1 pc = .ok (ins, len) ∧ (∀ w ∈ ab_wd Cq.2.2.2 M G md.1.cls ins k, w ∈ Ts ∧ w ∈ Ws) ∧ ab_nd Cq.2.1 Cq.2.2.2 M md.1.cls ins k)
    (hokA : ∀ (y : Nat) (my : ab_D), M[y]? = some my → ab_ok Cq.2.1 Cq.2.2.2 M G Ws my)
    (hle : ∀ (y : Nat) (As : List Value) (cs : List ab_C) (v : Option Value) (cs2 : List ab_C), call y As cs = some (v, cs2) → cs.length ≤ cs2.length ∧ ab_sz cs ≤ ab_sz cs2 ∧ ab_nr v)
    (IH : ∀ (y : Nat) (As : List Value) (cs : List ab_C) (v : Option Value) (cs2 : List ab_C) (my : ab_D), M[y]? = some my → call y As cs = some (v, cs2) → ab_Mt l D cl K Cq Ws my d As cs v cs2)
    (hA : ∀ q, s.heap.size ≤ q → A q) (hTT : ab_TT Cq.2.2.1 Cq.2.2.2 ad0 A s s.heap) (hRc : cs2.length - cs0.length ≤ R.cells) (hRs : ab_sz cs2 - ab_sz cs0 ≤ R.slots) (hRf : d + 4 ≤ R.frames) (hRl : 100 * (d + 1) ≤ R.locals)
    (hend : ab_En p l e R s m args below meth c Q D cl K md ad0 cs0 A v cs2) :
    ∀ (f pc : Nat) (L : ab_L) (st : List Value) (cs : List ab_C), ab_fr M G Z call md f (pc, L, st, cs) = some (v, cs2) → cs0.length ≤ cs.length → ab_sz cs0 ≤ ab_sz cs → ∀ (ad : Nat → Nat) (H : Heap) (locs : List Loc) (ls : Array Slot), (cs.length = cs0.length → ad = ad0) → (∀ k, k < cs0.length ∨ 1000000 ≤ k → ad k = ad0 k) →
      va_P D cl (ab_w K ad 0 cs) H → va_D A (ab_w K ad 0 cs) → va_S A s.heap H locs → ab_h ad ls md.2.2.1 L →
      W p l e R s m args below meth c H locs (cs.length - cs0.length) (ab_sz cs - ab_sz cs0) Q (F0 m pc ls (st.map (ab_v ad))) := by
  have hR : 4 ≤ R.frames ∧ 100 ≤ R.locals := ⟨by omega, by omega⟩
  intro f
  induction f with
  | zero => intro pc L st cs h; cases h
  | succ f ih =>
    intro pc L st cs h hcs hsz ad H locs ls ha1 ha2 hP hD hS hL
    have hend2 := ab_fr_le hle (f + 1) pc L st cs v cs2 h
    have hmls : c.maxLocals = ls.size := hml.trans hL.2.1.symm
    have hTa : ab_TT Cq.2.2.1 Cq.2.2.2 ad A s s.heap := hTT.ad (fun k hk => ha2 k (Or.inr hk))
    unfold ab_fr at h
    split at h
    · cases h
    · rename_i ins len k ps hat
      obtain ⟨hdg, hwd, hnd⟩ := hmd pc ins len k ps hat
      have hW : ∀ w ∈ ab_wd Cq.2.2.2 M G md.1.cls ins k, w.before args s = true := fun w q => hts w (hwd w q).1
      split at h
      · cases h
      · rename_i hln
        have hln := Classical.not_not.mp hln
        split at h
        · rename_i hp
          exact ab_pu_ok hx hb hdg hln hp ad (ih _ _ _ _ h hcs hsz ad H locs ls ha1 ha2 hP hD hS hL)
        · split at h
          · rename_i hp
            exact ab_lo_ok hx hb hdg hln hp ad hL (fun ls' hl => ih _ _ _ _ h hcs hsz ad H locs ls' ha1 ha2 hP hD hS hl)
          · split at h
            · rename_i st2 cs3 hp
              have hz := ab_hp_sz hp
              refine ab_hp_ok hx hb hmls hown hts hG hcq (by rw [hZ]; exact hTa) howG hI hWK.1 hR (by omega) (by omega) hA hdg hln hW (fun w q => hWs w (hwd w q).2) hnd.2.1 hnd.2.2 hp hP hD hS (fun H1 locs1 p1 d1 s1 => ?_)
              have h1 := ih _ _ _ _ h (by rw [hz.1]; exact hcs) (by rw [hz.2]; exact hsz) ad H1 locs1 ls (by rw [hz.1]; exact ha1) ha2 p1 d1 s1 hL
              rw [hz.1, hz.2] at h1
              exact h1
            · split at h
              · rename_i v1 hv
                cases h
                exact hend pc ins len st ad H locs ls hdg hln hv ha1 ha2 hP hD hS
              · split at h
                · rename_i st2 c1 hp
                  split at h
                  · rename_i hf
                    obtain ⟨hnn, hf⟩ := hf
                    rw [Bool.and_eq_true, Bool.and_eq_true] at hf
                    obtain ⟨hf1, hf2, hf3⟩ := hf
                    have h0 := ab_fr_le hle f _ _ _ _ v cs2 h
                    rw [List.length_append, ab_sz_app] at h0
                    have hl1 : [c1].length = 1 := rfl
                    refine ab_nw_ok hx hb hown hts hG hcq hWK.1 hWK.2.1 hdg hln hW hp hf3 hnn hA (by omega) (by omega) hP hD hS (fun q H1 p1 d1 s1 => ?_)
                    have h1 := ih _ _ _ _ h (by rw [List.length_append]; omega) (by rw [ab_sz_app]; omega) (ab_nx ad cs.length q) H1 locs ls (fun z => by rw [List.length_append] at z; omega) (fun j hj => (ab_nx_old ad hnn q j (by omega)).trans (ha2 j hj)) p1 d1 s1 (ab_h_ext (ab_nx_old ad hnn q) hL hf1)
                    rw [List.length_append, ab_sz_app, hl1, show cs.length + 1 - cs0.length = cs.length - cs0.length + 1 by omega, show ab_sz cs + ab_sc c1 - ab_sz cs0 = ab_sz cs - ab_sz cs0 + ab_sc c1 by omega, List.map_cons, ab_st_ext (ab_nx_old ad hnn q) hf2] at h1
                    rw [show ab_v (ab_nx ad cs.length q) (.ref cs.length) = .ref q by show Value.ref (ab_nx ad cs.length q cs.length) = _; rw [ab_nx_new]] at h1
                    exact h1
                  · cases h
                · split at h
                  · cases h
                  · rename_i y As r hca
                    split at h
                    · cases h
                    · rename_i my hmy
                      split at h
                      · rename_i hc
                        obtain ⟨c1, c2, c3, c4⟩ := hc
                        split at h
                        · cases h
                        · rename_i v1 cs3 hcl
                          split at h
                          · rename_i hf
                            have h0 := ab_fr_le hle f _ _ _ _ v cs2 h
                            have h3 := hle _ _ _ _ _ hcl
                            refine ab_ca_ok hx hb hml hown hts hWs hG hWK hTa hdg hln (fun w q => (hwd w q).2) hnd hca hmy (hokA y my hmy) c1 c2 c3 c4 (IH y As cs v1 cs3 my hmy hcl) hRf hRl hP hD hS hA hL (by omega) (by omega) (fun u H1 locs1 u1 u2 p1 d1 s1 => ?_)
                            have hLr : ab_h u ls md.2.2.1 L ∧ r.map (ab_v u) = r.map (ab_v ad) := by
                              rcases hf with hf | hf
                              · rw [u1 hf]
                                exact ⟨hL, rfl⟩
                              · rw [Bool.and_eq_true] at hf
                                exact ⟨ab_h_ext u2 hL hf.1, ab_st_ext u2 hf.2⟩
                            have h1 := ih _ _ _ _ h (by omega) (by omega) u H1 locs1 ls (fun z => (u1 (by omega)).trans (ha1 (by omega))) (fun j hj => (u2 j (by omega)).trans (ha2 j hj)) p1 d1 s1 hLr.1
                            rw [List.map_append, hLr.2, show v1.toList.map (ab_v u) = (v1.map (ab_v ad)).toList by rw [← h3.2.2 ad u (fun k hk => u2 k (Or.inr hk))]; cases v1 <;> rfl, show cs3.length - cs0.length = cs.length - cs0.length + (cs3.length - cs.length) by omega, show ab_sz cs3 - ab_sz cs0 = ab_sz cs - ab_sz cs0 + (ab_sz cs3 - ab_sz cs) by omega] at h1
                            exact h1
                          · cases h
                      · cases h
theorem ab_end {cs0 cs2 : List ab_C} {ad0 : Nat → Nat} {v : Option Value} {d : Nat} (hx : p.tables.exec = Jvm.exec) (hb : c.code = md.2.1) (hr : meth.sig.returnType = md.2.2.2.1) (hlocks : meth.locks = false) (hWK : ab_WK D cl K Cq s) :
    ab_En p l e { frames := d + 1 + 3, cells := cs2.length - cs0.length, slots := ab_sz cs2 - ab_sz cs0, locals := 100 * (d + 1) } s m args below meth c (MQ below (ab_Qc D cl K Cq ad0 cs0 s.heap.size v cs2) args s (cs2.length - cs0.length) (ab_sz cs2 - ab_sz cs0) (va_A (ab_w K ad0 0 cs0) s.heap.size)) D cl K md ad0 cs0 (va_A (ab_w K ad0 0 cs0) s.heap.size) v cs2 := by
  intro pc ins len st ad H locs ls hdg hln hv ha1 ha2 hP hD hS
  have hq : ∀ t : State, t.heap = H → s.WarmedH t.vm → ab_Qc D cl K Cq ad0 cs0 s.heap.size v cs2 args s (.returned (v.map (ab_v ad0))) t := fun t ht hWm => ⟨⟨rfl, ad, ha1, ha2, by rw [ht]; exact hP, hWK.moved hWm, hD⟩, hS.F ht⟩
  unfold ab_re at hv
  split at hv
  · split at hv
    · obtain rfl := ab_len (n := 0) rfl hln
      split at hv
      · rename_i hret
        cases hv
        exact W.iret hx hb (hr.trans hret) hq hS.2.2 hdg
      · rename_i hret
        split at hv
        · rename_i hz
          cases hv
          exact W.zret hx hb (hr.trans hret) (by rcases hz with rfl | rfl <;> decide) hq hS.2.2 hdg
        · cases hv
      · cases hv
    · cases hv
  · split at hv
    · obtain rfl := ab_len (n := 0) rfl hln
      split at hv
      · rename_i hret
        cases hv
        exact W.lret hx hb (hr.trans hret) hq hS.2.2 hdg
      · cases hv
    · cases hv
  · split at hv
    · obtain rfl := ab_len (n := 0) rfl hln
      split at hv
      · rename_i hret
        cases hv
        exact W.vret hx hb (hr.trans hret) hq hS.2.2 hdg
      · cases hv
    · cases hv
  · split at hv
    · obtain rfl := ab_len (n := 0) rfl hln
      split at hv
      · rename_i hret
        split at hv
        · rename_i x _ _ hx2
          cases hv
          have e : Value.ref (ad0 x) = ab_v ad (.ref x) := by show _ = Value.ref (ad x); rw [ha2 x (Or.inr (ab_big x hx2))]
          have hq2 := hq
          rw [show Option.map (ab_v ad0) (some (Value.ref x)) = some (ab_v ad (.ref x)) from congrArg some e] at hq2
          exact W.aret hx hb (hr.trans hret) (Or.inl ⟨_, rfl⟩) (Or.inr ⟨_, rfl⟩) hq2 hS.2.2 hdg
        · cases hv
      · cases hv
    · cases hv
  · cases hv
end ABS6
set_option maxHeartbeats 4000000 in
/-- the machine of worlds gives contracts -/
theorem ab_run_ok {l : Launch} {D : va_G} {cl : List vw_C} {K : ab_Q} {Cq : ab_X} {Ws : List Jvm.Cond} {G : Nat → Option ab_T} {M : List ab_D} {Z : ab_Z} (hWs : GoodIn Ws Ws) (hG : ab_cg cl Ws G) (hcq : ∃ T N ty, G Z.1 = some (Cq.1, T, N, ty)) (hZ : Z.2 = Cq.2.2.1) (hokA : ∀ (y : Nat) (my : ab_D), M[y]? = some my → ab_ok Cq.2.1 Cq.2.2.2 M G Ws my) :
    ∀ (d f y : Nat) (As : List Value) (cs : List ab_C) (v : Option Value) (cs2 : List ab_C) (my : ab_D), M[y]? = some my → ab_run M G Z d f y As cs = some (v, cs2) → ab_Mt l D cl K Cq Ws my d As cs v cs2 := by
  intro d
  induction d with
  | zero => intro f y As cs v cs2 my hmy h; cases h
  | succ d ih =>
    intro f y As cs v cs2 md hmd h ad sz
    unfold ab_run at h
    rw [hmd] at h
    dsimp only at h
    split at h
    · rename_i hlen
      have hok := hokA y md hmd
      refine Met.ofW (cc := md.2.1) (maxL := md.2.2.1) (ret := md.2.2.2.1) hok.1 rfl ?_
      intro p e s m args below meth c s₁ B hml hv
      obtain ⟨rfl, hsz, hP, hWK, hD0, hTT⟩ := hv
      have hts := atoms_spec (ws := .code md.1 md.2.1 md.2.2.1 md.2.2.2.1 :: Ws) B.pre
      have hown : s.vm.findClass md.1.cls = some m.cls := findClass_of_methodNamed B.named
      have hI : md.2.2.2.2.2.2.1 = true → meth.name = "<init>" := fun q => (name_of_methodNamed B.named B.method).1.trans (hok.2.2.2.2.1 q)
      subst hsz
      have hD := hD0.self (sz := s.heap.size)
      rw [lg_entry_eq]
      have h1 := ab_fr_W (cs0 := cs) (ad0 := ad) (below := below) (l := l) (e := e) (R := { frames := d + 1 + 3, cells := cs2.length - cs.length, slots := ab_sz cs2 - ab_sz cs, locals := 100 * (d + 1) }) B.exec B.bytes hml hown hI (fun w hw => hts w (List.mem_cons_of_mem _ hw)) hWs hG hcq hZ hWK hok.2.2.2.2.2.1 (fun pc ins len k ps hat => ⟨(hok.2.2.2.2.2.2 pc ins len k ps hat).1, fun w q => ⟨(hok.2.2.2.2.2.2 pc ins len k ps hat).2.1 w q, (hok.2.2.2.2.2.2 pc ins len k ps hat).2.1 w q⟩, (hok.2.2.2.2.2.2 pc ins len k ps hat).2.2⟩) hokA (fun y As cs v cs2 hc => ab_run_le d f y As cs v cs2 hc) (fun y As cs v cs2 my hmy hc => ih f y As cs v cs2 my hmy hc) (fun q h => Or.inr h) hTT (Nat.le_refl _) (Nat.le_refl _) (Nat.le_refl _) (Nat.le_refl _) (ab_end B.exec B.bytes B.returns B.notSynchronized hWK) f 0 _ [] cs h (Nat.le_refl _) (Nat.le_refl _) ad s.heap [] _ (fun _ => rfl) (fun _ _ => rfl) hP hD va_S.rf (ab_h_entry ad As hlen)
      rw [Nat.sub_self, Nat.sub_self] at h1
      exact h1
    · cases h
