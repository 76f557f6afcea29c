/-! The machine of worlds is the machine's: step by step -/
theorem ab_len {ins : Instr} {len n : Nat} (e : ab_ln ins = n + 1) (h : ab_ln ins = len ∨ ab_ln ins = 0) : len = n + 1 := by omega
theorem ab_v_cat (ad : Nat → Nat) (v : Value) : (ab_v ad v).category = v.category := by cases v <;> rfl
theorem ab_sm_map (ad : Nat → Nat) (st : List Value) : ((st.map (ab_v ad)).map fun v => v.category).sum = ab_sm st := by
  unfold ab_sm
  rw [List.map_map]
  congr 1
  exact List.map_congr_left (fun v _ => ab_v_cat ad v)
theorem ab_tg_ok {pc t : Nat} {off : Int} (h : ab_tg pc off = some t) : (pc : Int) + off = (t : Int) := by
  unfold ab_tg at h
  split at h
  · rename_i q e
    cases h
    exact e
  · cases h
section ABS
variable {p : Program} {l : Launch} {e : Env} {R : Room} {s : State} {m : MethodId} {args : Array Value} {below : List Frame} {meth : Method} {c : Code} {H : Heap} {locs : List Loc} {cells slots : Nat} {Q : State → Prop}
variable {cc : ByteArray} {pc : Nat} {ls : Array Slot} {rest : List Value}
theorem ab_if_ok (hx : p.tables.exec = Jvm.exec) (hb : c.code = cc) {x : Int32} {off : Int} {tgt : Nat} {o : ClassFile.Cond} (hdg : decode cc pc = .ok (.ifCond o off, 3)) (ht : (pc : Int) + off = (tgt : Int))
    (k : W p l e R s m args below meth c H locs cells slots Q (F0 m (cond (ab_cn o x 0) tgt (pc + 3)) ls rest)) : W p l e R s m args below meth c H locs cells slots Q (F0 m pc ls (.int x :: rest)) := by
  cases o
  · exact lv_if_eq hx hb hdg ht (fun h => by rw [show ab_cn .eq x 0 = true from decide_eq_true h] at k; exact k) (fun h => by rw [show ab_cn .eq x 0 = false from decide_eq_false h] at k; exact k)
  · exact lv_if_ne hx hb hdg ht (fun h => by rw [show ab_cn .ne x 0 = true from decide_eq_true h] at k; exact k) (fun h => by rw [show ab_cn .ne x 0 = false from decide_eq_false (fun q => q h)] at k; exact k)
  · exact lv_if_lt hx hb hdg ht (fun h => by rw [show ab_cn .lt x 0 = true from decide_eq_true h] at k; exact k) (fun h => by rw [show ab_cn .lt x 0 = false from decide_eq_false h] at k; exact k)
  · exact lv_if_ge hx hb hdg ht (fun h => by rw [show ab_cn .ge x 0 = true from decide_eq_true h] at k; exact k) (fun h => by rw [show ab_cn .ge x 0 = false from decide_eq_false h] at k; exact k)
  · exact lv_if_gt hx hb hdg ht (fun h => by rw [show ab_cn .gt x 0 = true from decide_eq_true h] at k; exact k) (fun h => by rw [show ab_cn .gt x 0 = false from decide_eq_false h] at k; exact k)
  · exact lv_if_le hx hb hdg ht (fun h => by rw [show ab_cn .le x 0 = true from decide_eq_true h] at k; exact k) (fun h => by rw [show ab_cn .le x 0 = false from decide_eq_false h] at k; exact k)
theorem ab_ic_ok (hx : p.tables.exec = Jvm.exec) (hb : c.code = cc) {x y : Int32} {off : Int} {tgt : Nat} {o : ClassFile.Cond} (hdg : decode cc pc = .ok (.if_icmp o off, 3)) (ht : (pc : Int) + off = (tgt : Int))
    (k : W p l e R s m args below meth c H locs cells slots Q (F0 m (cond (ab_cn o x y) tgt (pc + 3)) ls rest)) : W p l e R s m args below meth c H locs cells slots Q (F0 m pc ls (.int y :: .int x :: rest)) := by
  cases o
  · exact lv_icmp_eq hx hb hdg ht (fun h => by rw [show ab_cn .eq x y = true from decide_eq_true h] at k; exact k) (fun h => by rw [show ab_cn .eq x y = false from decide_eq_false h] at k; exact k)
  · exact lv_icmp_ne hx hb hdg ht (fun h => by rw [show ab_cn .ne x y = true from decide_eq_true h] at k; exact k) (fun h => by rw [show ab_cn .ne x y = false from decide_eq_false (fun q => q h)] at k; exact k)
  · exact lv_icmp_lt hx hb hdg ht (fun h => by rw [show ab_cn .lt x y = true from decide_eq_true h] at k; exact k) (fun h => by rw [show ab_cn .lt x y = false from decide_eq_false h] at k; exact k)
  · exact lv_icmp_ge hx hb hdg ht (fun h => by rw [show ab_cn .ge x y = true from decide_eq_true h] at k; exact k) (fun h => by rw [show ab_cn .ge x y = false from decide_eq_false h] at k; exact k)
  · exact lv_icmp_gt hx hb hdg ht (fun h => by rw [show ab_cn .gt x y = true from decide_eq_true h] at k; exact k) (fun h => by rw [show ab_cn .gt x y = false from decide_eq_false h] at k; exact k)
  · exact lv_icmp_le hx hb hdg ht (fun h => by rw [show ab_cn .le x y = true from decide_eq_true h] at k; exact k) (fun h => by rw [show ab_cn .le x y = false from decide_eq_false h] at k; exact k)
theorem ab_i2_ok (hx : p.tables.exec = Jvm.exec) (hb : c.code = cc) {ins : Instr} {len : Nat} {x y z : Int32} (hdg : decode cc pc = .ok (ins, len)) (hln : ab_ln ins = len ∨ ab_ln ins = 0) (h : ab_i2 ins x y = some z)
    (k : W p l e R s m args below meth c H locs cells slots Q (F0 m (pc + 1) ls (.int z :: rest))) : W p l e R s m args below meth c H locs cells slots Q (F0 m pc ls (.int y :: .int x :: rest)) := by
  unfold ab_i2 at h
  split at h
  · cases h; obtain rfl := ab_len (n := 0) rfl hln; exact lv_iadd hx hb hdg k
  · cases h; obtain rfl := ab_len (n := 0) rfl hln; exact lv_isub hx hb hdg k
  · cases h; obtain rfl := ab_len (n := 0) rfl hln; exact lv_imul hx hb hdg k
  · cases h; obtain rfl := ab_len (n := 0) rfl hln; exact lv_iand hx hb hdg k
  · cases h; obtain rfl := ab_len (n := 0) rfl hln; exact lv_ior hx hb hdg k
  · cases h; obtain rfl := ab_len (n := 0) rfl hln; exact lv_ixor hx hb hdg k
  · split at h
    · cases h
    · rename_i hne
      cases h; obtain rfl := ab_len (n := 0) rfl hln; exact lv_idiv hx hb hdg hne k
  · split at h
    · cases h
    · rename_i hne
      cases h; obtain rfl := ab_len (n := 0) rfl hln; exact lv_irem hx hb hdg hne k
  · cases h; obtain rfl := ab_len (n := 0) rfl hln; exact lv_ishl hx hb hdg k
  · cases h; obtain rfl := ab_len (n := 0) rfl hln; exact lv_ishr hx hb hdg k
  · cases h; obtain rfl := ab_len (n := 0) rfl hln; exact lv_iushr hx hb hdg rfl k
  · cases h
theorem ab_i1_ok (hx : p.tables.exec = Jvm.exec) (hb : c.code = cc) {ins : Instr} {len : Nat} {x : Int32} {z : Value} (hdg : decode cc pc = .ok (ins, len)) (hln : ab_ln ins = len ∨ ab_ln ins = 0) (h : ab_i1 ins x = some z) (ad : Nat → Nat)
    (k : W p l e R s m args below meth c H locs cells slots Q (F0 m (pc + 1) ls (ab_v ad z :: rest))) : W p l e R s m args below meth c H locs cells slots Q (F0 m pc ls (.int x :: rest)) := by
  unfold ab_i1 at h
  split at h
  · cases h; obtain rfl := ab_len (n := 0) rfl hln; exact lv_ineg hx hb hdg k
  · cases h; obtain rfl := ab_len (n := 0) rfl hln; exact lv_i2l hx hb hdg rfl k
  · cases h; obtain rfl := ab_len (n := 0) rfl hln; exact lv_i2b hx hb hdg rfl k
  · cases h; obtain rfl := ab_len (n := 0) rfl hln; exact lv_i2s hx hb hdg rfl k
  · cases h; obtain rfl := ab_len (n := 0) rfl hln; exact lv_i2c hx hb hdg rfl k
  · cases h
set_option maxHeartbeats 4000000 in
theorem ab_pu_ok (hx : p.tables.exec = Jvm.exec) (hb : c.code = cc) {ins : Instr} {len pc2 : Nat} {st st2 : List Value} (hdg : decode cc pc = .ok (ins, len)) (hln : ab_ln ins = len ∨ ab_ln ins = 0) (h : ab_pu ins pc st = some (pc2, st2)) (ad : Nat → Nat)
    (k : W p l e R s m args below meth c H locs cells slots Q (F0 m pc2 ls (st2.map (ab_v ad)))) : W p l e R s m args below meth c H locs cells slots Q (F0 m pc ls (st.map (ab_v ad))) := by
  unfold ab_pu at h
  split at h
  · cases h; obtain rfl := ab_len (n := 0) rfl hln; exact lv_iconst hx hb hdg rfl k
  · cases h; obtain rfl := ab_len (n := 1) rfl hln; exact lv_bipush hx hb hdg rfl k
  · cases h; obtain rfl := ab_len (n := 2) rfl hln; exact lv_sipush hx hb hdg rfl k
  · cases h; obtain rfl := ab_len (n := 0) rfl hln; exact lv_lconst hx hb hdg rfl k
  · split at h
    · split at h
      · rename_i hc
        cases h; obtain rfl := ab_len (n := 0) rfl hln; exact lv_dup hx hb hdg ((ab_v_cat ad _).trans hc) k
      · cases h
    · cases h
  · split at h
    · split at h
      · rename_i hc
        cases h; obtain rfl := ab_len (n := 0) rfl hln; exact lv_pop hx hb hdg ((ab_v_cat ad _).trans hc) k
      · cases h
    · cases h
  · split at h
    · split at h
      · rename_i hc
        cases h; obtain rfl := ab_len (n := 0) rfl hln; exact lv_pop2_2 hx hb hdg ((ab_v_cat ad _).trans hc) k
      · cases h
    · cases h
  · split at h
    · split at h
      · rename_i hc
        cases h; obtain rfl := ab_len (n := 0) rfl hln; exact lv_dup2_11 hx hb hdg ((ab_v_cat ad _).trans hc.1) ((ab_v_cat ad _).trans hc.2) k
      · cases h
    · cases h
  · split at h
    · split at h
      · rename_i hc
        cases h; obtain rfl := ab_len (n := 0) rfl hln; exact lv_dup_x1 hx hb hdg ((ab_v_cat ad _).trans hc.1) ((ab_v_cat ad _).trans hc.2) k
      · cases h
    · cases h
  · split at h
    · rename_i ht
      cases h; obtain rfl := ab_len (n := 2) rfl hln; exact lv_goto hx hb hdg (ab_tg_ok ht) k
    · cases h
  · split at h
    · split at h
      · rename_i ht
        cases h; obtain rfl := ab_len (n := 2) rfl hln; exact ab_if_ok hx hb hdg (ab_tg_ok ht) k
      · cases h
    · cases h
  · split at h
    · split at h
      · rename_i ht
        cases h; obtain rfl := ab_len (n := 2) rfl hln; exact ab_ic_ok hx hb hdg (ab_tg_ok ht) k
      · cases h
    · cases h
  · split at h
    · cases h; obtain rfl := ab_len (n := 0) rfl hln; exact lv_l2i hx hb hdg rfl k
    · cases h
  · split at h
    · cases h; obtain rfl := ab_len (n := 0) rfl hln; exact lv_lshl hx hb hdg rfl k
    · cases h
  · split at h
    · cases h; obtain rfl := ab_len (n := 0) rfl hln; exact lv_lor hx hb hdg k
    · cases h
  · split at h
    · cases h; obtain rfl := ab_len (n := 0) rfl hln; exact lv_land hx hb hdg k
    · cases h
  · split at h
    · cases h; obtain rfl := ab_len (n := 0) rfl hln; exact W.lcmp hx hb hdg k
    · cases h
  · split at h
    · split at h
      · rename_i hr
        split at h
        · rename_i ht
          cases h; exact lv_tableOut hx hb hdg hr (ab_tg_ok ht) k
        · cases h
      · rename_i hr
        have hr := not_or.mp hr
        split at h
        · rename_i ho
          split at h
          · rename_i ht
            cases h; exact lv_tableIn hx hb hdg hr.1 hr.2 ho (ab_tg_ok ht) k
          · cases h
        · cases h
    · cases h
  · split at h
    · split at h
      · rename_i hp
        split at h
        · rename_i ht
          cases h; exact lv_lookup hx hb hdg hp rfl (ab_tg_ok ht) k
        · cases h
      · cases h
    · cases h
  · split at h
    · split at h
      · rename_i h1
        cases h
        exact ab_i1_ok hx hb hdg hln h1 ad k
      · split at h
        · split at h
          · rename_i h2
            cases h
            exact ab_i2_ok hx hb hdg hln h2 k
          · cases h
        · cases h
    · cases h
end ABS
