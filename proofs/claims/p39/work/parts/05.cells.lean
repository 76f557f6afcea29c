/-! steps over the world -/
def ab_cg (cl : List vw_C) (Ts : List Jvm.Cond) (G : Nat → Option ab_T) : Prop := ∀ (ci : Nat) (C : String) (T : u_T) (N : Nat) (ty : Nat → FieldType), G ci = some (C, T, N, ty) → cl[ci]? = some (C, T, N) ∧ (∀ w ∈ u_ws C T N, w ∈ Ts) ∧ (∀ k, k < N → parseFieldDescriptor (T k).2.2.1 = some (ty k)) ∧ (∀ a, a < N → ∀ b, b < N → a ≠ b → (T a).2.1 ≠ (T b).2.1) ∧ (∀ k, k < N → (T k).1 = C)
def ab_ty (K : ab_Q) (Cq : String) : List (ClassId × FieldType) := [(K.1, .int), (K.2.1, .long), (K.2.2, .object Cq)]
theorem ab_off (a : Nat) (h : ¬ a < 1000000) : 1000000 + (a - 1000000) = a := by omega
/-- arrays that stay as they are, and the static fields that hold them -/
def ab_TT (Tb : List (List Int32)) (Sl : List (String × String)) (ad : Nat → Nat) (A : Nat → Prop) (U : State) (H : Heap) : Prop :=
  (∀ (j : Nat) (t : List Int32), Tb[j]? = some t → va_T .int (ad (1000000 + j)) t.length (fun i => .int (t.getD i 0)) A U H) ∧ (∀ (j : Nat) (q : String × String), Sl[j]? = some q → va_Z q.1 q.2 "[I" (.ref (ad (1000000 + j))) A U H) ∧ tx_S (fun j => ad (2000000 + j)) A U H ∧ ∀ q ∈ tx_R, vk_R q.1 q.2.1 q.2.2.1 (ad (2000000 + q.2.2.2)) U
theorem ab_TT.ad {Tb : List (List Int32)} {Sl : List (String × String)} {ad ad' : Nat → Nat} {A : Nat → Prop} {U : State} {H : Heap} (h : ab_TT Tb Sl ad A U H) (e : ∀ k, 1000000 ≤ k → ad' k = ad k) : ab_TT Tb Sl ad' A U H :=
  ⟨fun j t q => by rw [e _ (by omega)]; exact h.1 j t q, fun j q r => by rw [e _ (by omega)]; exact h.2.1 j q r, by rw [show (fun j => ad' (2000000 + j)) = (fun j => ad (2000000 + j)) from funext (fun j => e _ (by omega))]; exact h.2.2.1, fun q hq => by rw [e _ (by omega)]; exact h.2.2.2 q hq⟩
theorem ab_TT.go {Tb : List (List Int32)} {Sl : List (String × String)} {ad : Nat → Nat} {A B : Nat → Prop} {u U : State} {H H1 : Heap} (h : ab_TT Tb Sl ad A u H) (hq : ∀ a : Nat, a < H.size → ¬ A a → H1[a]? = H[a]?) (hw : u.WarmedH U.vm ∨ u.vm = U.vm) (hAB : ∀ q, B q → A q) : ab_TT Tb Sl ad B U H1 := by
  have hvm : u.vm.Alike U.vm := hw.elim (fun w => w.alike) (fun q => q ▸ Vm.Alike.refl _)
  refine
  ⟨fun j t q => (((h.1 j t q).kept hq).moved hvm).narrow hAB, fun j q r => (((h.2.1 j q r).kept hq).moved hvm).narrow hAB, h.2.2.1.go hq hvm hAB, fun q hr => hw.elim (fun w => (h.2.2.2 q hr).warm w) (fun e => (h.2.2.2 q hr).same e.symm)⟩
section ABS4
variable {p : Program} {l : Launch} {e : Env} {R : Room} {s : State} {m : MethodId} {args : Array Value} {below : List Frame} {meth : Method} {c : Code} {H : Heap} {locs : List Loc} {cells slots : Nat} {Q : State → Prop}
variable {cc : ByteArray} {pc : Nat} {ls : Array Slot} {D : va_G} {cl : List vw_C} {A : Nat → Prop} {H0 : Heap} {K : ab_Q} {Cq own : String} {ad : Nat → Nat} {cs cs2 : List ab_C} {st st2 : List Value} {Ts : List Jvm.Cond} {G : Nat → Option ab_T} {M : List ab_D} {len : Nat} {Tb : List (List Int32)} {Sl : List (String × String)}
theorem ab_gf_ok (hx : p.tables.exec = Jvm.exec) (hb : c.code = cc) (hown : s.vm.findClass own = some m.cls) (hts : ∀ w ∈ Ts, w.before args s = true) (hG : ab_cg cl Ts G) (hK : va_K D cl (ab_ty K Cq) s)
    {i : Nat} {k : ab_K} (hdg : decode cc pc = .ok (.getfield i, 3)) (hW : ∀ w ∈ ab_wd Sl M G own (.getfield i) k, w.before args s = true) (h : ab_gf G k.2.1 k.2.2 st cs = some (st2, cs2)) (hP : va_P D cl (ab_w K ad 0 cs) H)
    (kk : cs2 = cs → W p l e R s m args below meth c H locs cells slots Q (F0 m (pc + 3) ls (st2.map (ab_v ad)))) : W p l e R s m args below meth c H locs cells slots Q (F0 m pc ls (st.map (ab_v ad))) := by
  unfold ab_gf at h
  split at h
  · rename_i a r
    split at h
    · rename_i ci fs C T N ty he hg
      split at h
      · rename_i hc
        obtain ⟨hci, hkN⟩ := hc
        subst hci
        obtain ⟨h1, h2, h3, h4, h5⟩ := hG _ _ _ _ _ hg
        split at h
        · rename_i v hv
          cases h
          have hlink := hW (.fieldLink own i (T k.2.2).1 (T k.2.2).2.1 (T k.2.2).2.2.1) (by unfold ab_wd; rw [hg]; exact List.mem_cons_self)
          exact va_get hx hb hts h2 hown hK hP a (ab_w_at he) h1 k.2.2 hkN hlink (fun _ q => q) (v := ab_v ad v) (by rw [List.getElem?_map, hv]; rfl) hdg (kk rfl)
        · cases h
      · cases h
    · cases h
  · cases h
theorem ab_pf_ok (hx : p.tables.exec = Jvm.exec) (hb : c.code = cc) (hown : s.vm.findClass own = some m.cls) (hts : ∀ w ∈ Ts, w.before args s = true) (hG : ab_cg cl Ts G) {o : Nat} {isI : Bool} (howG : ∀ C T N ty, G o = some (C, T, N, ty) → C = own) (hI : isI = true → meth.name = "<init>") (hK : va_K D cl (ab_ty K Cq) s)
    {i : Nat} {k : ab_K} (hdg : decode cc pc = .ok (.putfield i, 3)) (hW : ∀ w ∈ ab_wd Sl M G own (.putfield i) k, w.before args s = true) (h : ab_pf G o isI k.2.1 k.2.2 st cs = some (st2, cs2)) (hP : va_P D cl (ab_w K ad 0 cs) H) (hD : va_D A (ab_w K ad 0 cs)) (hS : va_S A H0 H locs)
    (kk : ∀ (H1 : Heap) (locs1 : List Loc), va_P D cl (ab_w K ad 0 cs2) H1 → va_D A (ab_w K ad 0 cs2) → va_S A H0 H1 locs1 → W p l e R s m args below meth c H1 locs1 cells slots Q (F0 m (pc + 3) ls (st2.map (ab_v ad)))) : W p l e R s m args below meth c H locs cells slots Q (F0 m pc ls (st.map (ab_v ad))) := by
  unfold ab_pf at h
  split at h
  · rename_i v a r
    split at h
    · rename_i ci fs C T N ty he hg
      split at h
      · rename_i hc
        obtain ⟨hci, hfN, hfl, hft, hfin⟩ := hc
        subst hci
        cases h
        obtain ⟨h1, h2, h3, h4, h5⟩ := hG _ _ _ _ _ hg
        have hlink := hW (.fieldLink own i (T k.2.2).1 (T k.2.2).2.1 (T k.2.2).2.2.1) (by unfold ab_wd; rw [hg]; exact List.mem_cons_self)
        obtain ⟨n1, n2⟩ := ab_ft_n hft ad
        have hset : (ab_w K ad 0 cs).set a (ad a, .inr (k.2.1, (fs.map (ab_v ad)).set k.2.2 (ab_v ad v))) = ab_w K ad 0 (cs.set a (.inr (.inr (.inr (k.2.1, fs.set k.2.2 v))))) := by
          rw [← ab_w_put]
          show _ = (ab_w K ad 0 cs).set a (ad a, .inr (k.2.1, (fs.set k.2.2 v).map (ab_v ad)))
          rw [List.map_set]
        cases hf : (T k.2.2).2.2.2 with
        | false =>
          exact va_put hx hb hts h2 ty h3 h4 hown hK hP hD hS a (ab_w_at he) h1 k.2.2 hfN hlink (fun _ q => q) hf (h3 _ hfN) n1 n2 (by rw [List.length_map]; exact hfl) hdg (fun H1 locs1 p1 d1 s1 => by rw [hset] at p1 d1; exact kk H1 locs1 p1 d1 s1)
        | true =>
          obtain ⟨g1, g2⟩ := hfin hf
          have hdecl : (T k.2.2).1 = own := (h5 _ hfN).trans (howG C T N ty (g2 ▸ hg))
          exact va_putF hx hb hts h2 ty h3 h4 hown hK hP hD hS a (ab_w_at he) h1 k.2.2 hfN hlink (fun _ q => q) hf (hI g1) hdecl (h3 _ hfN) n1 n2 (by rw [List.length_map]; exact hfl) hdg (fun H1 locs1 p1 d1 s1 => by rw [hset] at p1 d1; exact kk H1 locs1 p1 d1 s1)
      · cases h
    · cases h
  · cases h
theorem ab_ia_ok (hx : p.tables.exec = Jvm.exec) (hb : c.code = cc) (hK : va_K D cl (ab_ty K Cq) s) (hTT : ab_TT Tb Sl ad A s s.heap) (hS : va_S A s.heap H locs) (hdg : decode cc pc = .ok (.iaload, 1)) (h : ab_ia Tb st cs = some (st2, cs2)) (hP : va_P D cl (ab_w K ad 0 cs) H)
    (kk : cs2 = cs → W p l e R s m args below meth c H locs cells slots Q (F0 m (pc + 1) ls (st2.map (ab_v ad)))) : W p l e R s m args below meth c H locs cells slots Q (F0 m pc ls (st.map (ab_v ad))) := by
  unfold ab_ia at h
  split at h
  · rename_i i a r
    split at h
    · rename_i q he
      split at h
      · cases h
      · rename_i hin
        cases h
        exact va_iald hx hb hK hP a 0 (ab_w_at he) rfl hin hdg (kk rfl)
    · split at h
      · rename_i t ht
        split at h
        · cases h
        · rename_i hin
          obtain ⟨ha, hin⟩ := not_or.mp hin
          cases h
          have h1 := hTT.1 _ _ ht
          rw [ab_off a ha] at h1
          exact va_ti hx hb h1 hS hin rfl hdg (kk rfl)
      · cases h
    · cases h
  · cases h
theorem ab_la_ok (hx : p.tables.exec = Jvm.exec) (hb : c.code = cc) (hK : va_K D cl (ab_ty K Cq) s) (hdg : decode cc pc = .ok (.laload, 1)) (h : ab_la st cs = some (st2, cs2)) (hP : va_P D cl (ab_w K ad 0 cs) H)
    (kk : cs2 = cs → W p l e R s m args below meth c H locs cells slots Q (F0 m (pc + 1) ls (st2.map (ab_v ad)))) : W p l e R s m args below meth c H locs cells slots Q (F0 m pc ls (st.map (ab_v ad))) := by
  unfold ab_la at h
  split at h
  · rename_i i a r
    split at h
    · rename_i q he
      split at h
      · cases h
      · rename_i hin
        cases h
        exact va_lald hx hb hK hP a 1 (ab_w_at he) rfl hin hdg (kk rfl)
    · cases h
  · cases h
theorem ab_vr_v (ad : Nat → Nat) (o : Option Nat) : ab_v ad (ab_vr o) = va_rf (o.map ad) := by cases o <;> rfl
theorem ab_aa_ok (hx : p.tables.exec = Jvm.exec) (hb : c.code = cc) (hK : va_K D cl (ab_ty K Cq) s) (hdg : decode cc pc = .ok (.aaload, 1)) (h : ab_aa st cs = some (st2, cs2)) (hP : va_P D cl (ab_w K ad 0 cs) H)
    (kk : cs2 = cs → W p l e R s m args below meth c H locs cells slots Q (F0 m (pc + 1) ls (st2.map (ab_v ad)))) : W p l e R s m args below meth c H locs cells slots Q (F0 m pc ls (st.map (ab_v ad))) := by
  unfold ab_aa at h
  split at h
  · rename_i i a r
    split at h
    · rename_i q he
      split at h
      · cases h
      · rename_i hin
        cases h
        have k1 := kk rfl
        rw [List.map_cons, ab_vr_v] at k1
        exact va_aldq hx hb hK hP a 2 (ab_w_at he) rfl hin hdg k1
    · cases h
  · cases h
theorem ab_is_ok (hx : p.tables.exec = Jvm.exec) (hb : c.code = cc) (hK : va_K D cl (ab_ty K Cq) s) (hdg : decode cc pc = .ok (.iastore, 1)) (h : ab_is st cs = some (st2, cs2)) (hP : va_P D cl (ab_w K ad 0 cs) H) (hD : va_D A (ab_w K ad 0 cs)) (hS : va_S A H0 H locs)
    (kk : ∀ (H1 : Heap) (locs1 : List Loc), va_P D cl (ab_w K ad 0 cs2) H1 → va_D A (ab_w K ad 0 cs2) → va_S A H0 H1 locs1 → W p l e R s m args below meth c H1 locs1 cells slots Q (F0 m (pc + 1) ls (st2.map (ab_v ad)))) : W p l e R s m args below meth c H locs cells slots Q (F0 m pc ls (st.map (ab_v ad))) := by
  unfold ab_is at h
  split at h
  · rename_i x i a r
    split at h
    · rename_i q he
      split at h
      · cases h
      · rename_i hin
        cases h
        have hlt : i.toNatClampNeg < q.length := Nat.not_le.mp (not_or.mp hin).2
        have hset : (ab_w K ad 0 cs).set a (ad a, .inl (K.1, q.length, .inl (upd (fun j => q.getD j 0) i.toNatClampNeg x))) = ab_w K ad 0 (cs.set a (.inl (q.set i.toNatClampNeg x))) := by
          rw [← ab_w_put, ab_upI hlt]
          show _ = List.set (ab_w K ad 0 cs) a (ad a, Sum.inl (K.1, (q.set i.toNatClampNeg x).length, _))
          rw [List.length_set]
        exact va_iast hx hb hK hP hD hS a 0 (ab_w_at he) rfl hin hdg (fun H1 locs1 p1 d1 s1 => by rw [hset] at p1 d1; exact kk H1 locs1 p1 d1 s1)
    · cases h
  · cases h
theorem ab_lst_ok (hx : p.tables.exec = Jvm.exec) (hb : c.code = cc) (hK : va_K D cl (ab_ty K Cq) s) (hdg : decode cc pc = .ok (.lastore, 1)) (h : ab_lst st cs = some (st2, cs2)) (hP : va_P D cl (ab_w K ad 0 cs) H) (hD : va_D A (ab_w K ad 0 cs)) (hS : va_S A H0 H locs)
    (kk : ∀ (H1 : Heap) (locs1 : List Loc), va_P D cl (ab_w K ad 0 cs2) H1 → va_D A (ab_w K ad 0 cs2) → va_S A H0 H1 locs1 → W p l e R s m args below meth c H1 locs1 cells slots Q (F0 m (pc + 1) ls (st2.map (ab_v ad)))) : W p l e R s m args below meth c H locs cells slots Q (F0 m pc ls (st.map (ab_v ad))) := by
  unfold ab_lst at h
  split at h
  · rename_i x i a r
    split at h
    · rename_i q he
      split at h
      · cases h
      · rename_i hin
        cases h
        have hlt : i.toNatClampNeg < q.length := Nat.not_le.mp (not_or.mp hin).2
        have hset : (ab_w K ad 0 cs).set a (ad a, .inl (K.2.1, q.length, .inr (.inl (vp_updL (fun j => q.getD j 0) i.toNatClampNeg x)))) = ab_w K ad 0 (cs.set a (.inr (.inl (q.set i.toNatClampNeg x)))) := by
          rw [← ab_w_put, ab_upL hlt]
          show _ = List.set (ab_w K ad 0 cs) a (ad a, Sum.inl (K.2.1, (q.set i.toNatClampNeg x).length, _))
          rw [List.length_set]
        exact va_last hx hb hK hP hD hS a 1 (ab_w_at he) rfl hin hdg (fun H1 locs1 p1 d1 s1 => by rw [hset] at p1 d1; exact kk H1 locs1 p1 d1 s1)
    · cases h
  · cases h
theorem ab_as_ok (hx : p.tables.exec = Jvm.exec) (hb : c.code = cc) (hG : ab_cg cl Ts G) {cq : Nat} (hcq : ∃ T N ty, G cq = some (Cq, T, N, ty)) (hK : va_K D cl (ab_ty K Cq) s) (hdg : decode cc pc = .ok (.aastore, 1)) (h : ab_as cq st cs = some (st2, cs2)) (hP : va_P D cl (ab_w K ad 0 cs) H) (hD : va_D A (ab_w K ad 0 cs)) (hS : va_S A H0 H locs)
    (kk : ∀ (H1 : Heap) (locs1 : List Loc), va_P D cl (ab_w K ad 0 cs2) H1 → va_D A (ab_w K ad 0 cs2) → va_S A H0 H1 locs1 → W p l e R s m args below meth c H1 locs1 cells slots Q (F0 m (pc + 1) ls (st2.map (ab_v ad)))) : W p l e R s m args below meth c H locs cells slots Q (F0 m pc ls (st.map (ab_v ad))) := by
  obtain ⟨T, N, ty, hg⟩ := hcq
  obtain ⟨h1, -⟩ := hG _ _ _ _ _ hg
  unfold ab_as at h
  split at h
  · rename_i x i a r
    split at h
    · rename_i q ci fs he he2
      split at h
      · rename_i hci
        subst hci
        split at h
        · cases h
        · rename_i hin
          cases h
          have hlt : i.toNatClampNeg < q.length := Nat.not_le.mp (not_or.mp hin).2
          have hset : (ab_w K ad 0 cs).set a (ad a, .inl (K.2.2, q.length, .inr (.inr (.inr (.inr (va_up (fun j => (q.getD j none).map ad) i.toNatClampNeg (some (ad x)))))))) = ab_w K ad 0 (cs.set a (.inr (.inr (.inl (q.set i.toNatClampNeg (some x)))))) := by
            rw [← ab_w_put, ab_upQ ad hlt]
            show _ = (ab_w K ad 0 cs).set a (ad a, .inl (K.2.2, (q.set i.toNatClampNeg (some x)).length, _))
            rw [List.length_set]
          exact va_astq hx hb hK hP hD hS a 2 x ci (ab_w_at he) rfl (ab_w_at he2) h1 hin hdg (fun H1 locs1 p1 d1 s1 => by rw [hset] at p1 d1; exact kk H1 locs1 p1 d1 s1)
      · cases h
    · cases h
  · cases h
theorem ab_al_ok (hx : p.tables.exec = Jvm.exec) (hb : c.code = cc) (hK : va_K D cl (ab_ty K Cq) s) (hTT : ab_TT Tb Sl ad A s s.heap) (hS : va_S A s.heap H locs) (hdg : decode cc pc = .ok (.arraylength, 1)) (h : ab_al Tb st cs = some (st2, cs2)) (hP : va_P D cl (ab_w K ad 0 cs) H)
    (kk : cs2 = cs → W p l e R s m args below meth c H locs cells slots Q (F0 m (pc + 1) ls (st2.map (ab_v ad)))) : W p l e R s m args below meth c H locs cells slots Q (F0 m pc ls (st.map (ab_v ad))) := by
  unfold ab_al at h
  split at h
  · rename_i a r
    split at h
    · rename_i q he
      cases h
      exact va_alen hx hb hK hP a 0 (ab_w_at he) rfl rfl hdg (kk rfl)
    · rename_i q he
      cases h
      exact va_alen hx hb hK hP a 1 (ab_w_at he) rfl rfl hdg (kk rfl)
    · rename_i q he
      cases h
      exact va_alen hx hb hK hP a 2 (ab_w_at he) rfl rfl hdg (kk rfl)
    · split at h
      · rename_i t ht
        split at h
        · cases h
        · rename_i ha
          cases h
          have h1 := hTT.1 _ _ ht
          rw [ab_off a ha] at h1
          exact va_tlen hx hb h1 hS rfl hdg (kk rfl)
      · cases h
    · cases h
  · cases h
theorem ab_cy_ok (hx : p.tables.exec = Jvm.exec) (hb : c.code = cc) (hml : c.maxLocals = ls.size) (hown : s.vm.findClass own = some m.cls) (hR : 1 ≤ R.frames ∧ 100 ≤ R.locals) (hK : va_K D cl (ab_ty K Cq) s) {i : Nat} (hdg : decode cc pc = .ok (.invokestatic i, 3))
    (w1 : (Jvm.Cond.methodLink own i arraycopyName).before args s = true) (w2 : (Jvm.Cond.native arraycopyName).before args s = true) (w3 : (Jvm.Cond.static arraycopyName).before args s = true) (w4 : (Jvm.Cond.initialized "java/lang/System").before args s = true)
    (h : ab_cy st cs = some (st2, cs2)) (hP : va_P D cl (ab_w K ad 0 cs) H) (hD : va_D A (ab_w K ad 0 cs)) (hS : va_S A H0 H locs)
    (kk : ∀ (H1 : Heap) (locs1 : List Loc), va_P D cl (ab_w K ad 0 cs2) H1 → va_D A (ab_w K ad 0 cs2) → va_S A H0 H1 locs1 → W p l e R s m args below meth c H1 locs1 cells slots Q (F0 m (pc + 3) ls (st2.map (ab_v ad)))) : W p l e R s m args below meth c H locs cells slots Q (F0 m pc ls (st.map (ab_v ad))) := by
  unfold ab_cy at h
  split at h
  · rename_i n dp a sp a0 r
    split at h
    · cases h
    · rename_i hn
      obtain ⟨n1, hn⟩ := not_or.mp hn
      obtain ⟨n2, hn⟩ := not_or.mp hn
      obtain ⟨n3, n4⟩ := not_or.mp hn
      have hlo : ((r.map (ab_v ad)).map fun v => v.category).sum + (nativeFrameWords "java/lang/System" "arraycopy" 5 + 11) ≤ R.locals := by
        rw [ab_sm_map]
        have : nativeFrameWords "java/lang/System" "arraycopy" 5 ≤ 7 := by decide
        omega
      split at h
      · rename_i f g he0 he
        split at h
        · rename_i hq
          cases h
          have hset : (ab_w K ad 0 cs).set a (ad a, .inl (K.1, g.length, .inl (va_cpy (fun j => f.getD j 0) (fun j => g.getD j 0) sp.toNatClampNeg dp.toNatClampNeg n.toNatClampNeg))) = ab_w K ad 0 (cs.set a (.inl (ab_cp f g sp.toNatClampNeg dp.toNatClampNeg n.toNatClampNeg))) := by
            rw [← ab_w_put, ab_cpd hq.1 hq.2]
            show _ = List.set (ab_w K ad 0 cs) a (ad a, Sum.inl (K.1, (ab_cp f g sp.toNatClampNeg dp.toNatClampNeg n.toNatClampNeg).length, _))
            rw [ab_cpl hq.1 hq.2]
          exact va_copyi hx hb hml hown w1 w2 w3 w4 hK hP hD hS a0 a 0 0 (ab_w_at he0) (ab_w_at he) rfl rfl rfl n3 n2 n1 hq.1 hq.2 (fun _ _ => rfl) hR.1 hlo hdg (fun H1 locs1 p1 d1 s1 => by rw [hset] at p1 d1; exact kk H1 locs1 p1 d1 s1)
        · cases h
      · rename_i f g he0 he
        split at h
        · rename_i hq
          cases h
          have hset : (ab_w K ad 0 cs).set a (ad a, .inl (K.2.1, g.length, .inr (.inl (va_cpy (fun j => f.getD j 0) (fun j => g.getD j 0) sp.toNatClampNeg dp.toNatClampNeg n.toNatClampNeg)))) = ab_w K ad 0 (cs.set a (.inr (.inl (ab_cp f g sp.toNatClampNeg dp.toNatClampNeg n.toNatClampNeg)))) := by
            rw [← ab_w_put, ab_cpd hq.1 hq.2]
            show _ = List.set (ab_w K ad 0 cs) a (ad a, Sum.inl (K.2.1, (ab_cp f g sp.toNatClampNeg dp.toNatClampNeg n.toNatClampNeg).length, _))
            rw [ab_cpl hq.1 hq.2]
          exact va_copyl hx hb hml hown w1 w2 w3 w4 hK hP hD hS a0 a 1 1 (ab_w_at he0) (ab_w_at he) rfl rfl rfl n3 n2 n1 hq.1 hq.2 (fun _ _ => rfl) hR.1 hlo hdg (fun H1 locs1 p1 d1 s1 => by rw [hset] at p1 d1; exact kk H1 locs1 p1 d1 s1)
        · cases h
      · cases h
  · cases h
theorem ab_oi_ok (hx : p.tables.exec = Jvm.exec) (hb : c.code = cc) (hml : c.maxLocals = ls.size) (hown : s.vm.findClass own = some m.cls) (hR : 1 ≤ R.frames ∧ 100 ≤ R.locals) {i : Nat} (hdg : decode cc pc = .ok (.invokespecial i, 3))
    (w1 : (Jvm.Cond.methodLink own i objectInit).before args s = true) (w2 : (Jvm.Cond.instanceMethod objectInit).before args s = true) (w3 : (Jvm.Cond.code objectInit ⟨#[0xb1]⟩ 1 none).before args s = true)
    (h : ab_oi st cs = some (st2, cs2)) (kk : cs2 = cs → W p l e R s m args below meth c H locs cells slots Q (F0 m (pc + 3) ls (st2.map (ab_v ad)))) : W p l e R s m args below meth c H locs cells slots Q (F0 m pc ls (st.map (ab_v ad))) := by
  unfold ab_oi at h
  split at h
  · rename_i a r
    split at h
    · rename_i hs
      cases h
      exact W.objInit hx hb hown w1 w2 w3 (g := F0 m pc ls ((Value.ref a :: st2).map (ab_v ad))) rfl hml.symm rfl hdg hR.1 (by rw [ab_sm_map]; show 2 * 0 + _ + 12 ≤ _; omega) (kk rfl)
    · cases h
  · cases h
theorem ab_mx_ok (hx : p.tables.exec = Jvm.exec) (hb : c.code = cc) (hml : c.maxLocals = ls.size) (hown : s.vm.findClass own = some m.cls) (hR : 1 ≤ R.frames ∧ 100 ≤ R.locals) (hce : cells ≤ R.cells) (hsl : slots ≤ R.slots) {i : Nat} (hdg : decode cc pc = .ok (.invokestatic i, 3))
    (w1 : (Jvm.Cond.methodLink own i Lib.Math.max.name).before args s = true) (w2 : (Jvm.Cond.static Lib.Math.max.name).before args s = true) (w3 : (Jvm.Cond.initialized "java/lang/Math").before args s = true) (w4 : (Jvm.Cond.code Lib.Math.max.name Lib.Math.max.code 2 (some .int)).before args s = true)
    (h : ab_mx st cs = some (st2, cs2)) (kk : cs2 = cs → W p l e R s m args below meth c H locs cells slots Q (F0 m (pc + 3) ls (st2.map (ab_v ad)))) : W p l e R s m args below meth c H locs cells slots Q (F0 m pc ls (st.map (ab_v ad))) := by
  unfold ab_mx at h
  split at h
  · rename_i y x r
    split at h
    · rename_i hs
      cases h
      exact va_mmax hx hb hml hown w1 w2 w3 w4 hR.1 (by rw [ab_sm_map]; omega) hce hsl hdg (kk rfl)
    · cases h
  · cases h
theorem ab_mn_ok (hx : p.tables.exec = Jvm.exec) (hb : c.code = cc) (hml : c.maxLocals = ls.size) (hown : s.vm.findClass own = some m.cls) (hR : 1 ≤ R.frames ∧ 100 ≤ R.locals) (hce : cells ≤ R.cells) (hsl : slots ≤ R.slots) {i : Nat} (hdg : decode cc pc = .ok (.invokestatic i, 3))
    (w1 : (Jvm.Cond.methodLink own i Lib.Math.min.name).before args s = true) (w2 : (Jvm.Cond.static Lib.Math.min.name).before args s = true) (w3 : (Jvm.Cond.initialized "java/lang/Math").before args s = true) (w4 : (Jvm.Cond.code Lib.Math.min.name Lib.Math.min.code 2 (some .int)).before args s = true)
    (h : ab_mn st cs = some (st2, cs2)) (kk : cs2 = cs → W p l e R s m args below meth c H locs cells slots Q (F0 m (pc + 3) ls (st2.map (ab_v ad)))) : W p l e R s m args below meth c H locs cells slots Q (F0 m pc ls (st.map (ab_v ad))) := by
  unfold ab_mn at h
  split at h
  · rename_i y x r
    split at h
    · rename_i hs
      cases h
      exact va_mmin hx hb hml hown w1 w2 w3 w4 hR.1 (by rw [ab_sm_map]; omega) hce hsl hdg (kk rfl)
    · cases h
  · cases h
theorem ab_off2 (a : Nat) (h1 : 2000000 ≤ a) (h2 : a < 2000007) : 2000000 + (a - 2000000) = a ∧ a - 2000000 < 7 := by omega
theorem tx_Nlt (i : Nat) : tx_N.getD i 0 < 100 := by
  match i with
  | 0 | 1 | 2 | 3 | 4 | 5 | 6 => decide
  | i + 7 => simp [tx_N]
theorem ab_xlt {x : Int32} {n : Nat} (h : ¬ (x < 0 ∨ n ≤ x.toNatClampNeg)) (hn : n < 2 ^ 31) : x < Int32.ofNat n := by
  obtain ⟨h1, h2⟩ := not_or.mp h
  have hz0 : (0 : Int) ≤ x.toInt := by
    have := Int32.not_lt.mp h1
    simpa using Int32.le_iff_toInt_le.mp this
  have e : x.toNatClampNeg = x.toInt.toNat := rfl
  rw [Int32.lt_iff_toInt_lt, Int32.toInt_ofNat_of_lt (by omega)]
  omega
set_option maxHeartbeats 4000000 in
theorem ab_hp_ok (hx : p.tables.exec = Jvm.exec) (hb : c.code = cc) (hml : c.maxLocals = ls.size) (hown : s.vm.findClass own = some m.cls) (hts : ∀ w ∈ Ts, w.before args s = true) (hG : ab_cg cl Ts G) {Z : ab_Z} {o : Nat} {isI : Bool} (hcq : ∃ T N ty, G Z.1 = some (Cq, T, N, ty)) (hTT : ab_TT Z.2 Sl ad A s s.heap) (howG : ∀ C T N ty, G o = some (C, T, N, ty) → C = own) (hI : isI = true → meth.name = "<init>") (hK : va_K D cl (ab_ty K Cq) s)
    (hR4 : 4 ≤ R.frames ∧ 100 ≤ R.locals) (hce : cells ≤ R.cells) (hsl : slots ≤ R.slots) (hA : ∀ q, s.heap.size ≤ q → A q) {ins : Instr} {k : ab_K} (hdg : decode cc pc = .ok (ins, len)) (hln : ab_ln ins = len ∨ ab_ln ins = 0) (hW : ∀ w ∈ ab_wd Sl M G own ins k, w.before args s = true) (hWg : GoodIn Ts (ab_wd Sl M G own ins k)) (h13 : ∀ i, ins = .getstatic i → k.1 = 13 → ¬ Sl[k.2.1]? = none) (h16 : ∀ i, ins = .ldc i → k.1 = 16 → ∃ tx : String, (own, i, tx, k.2.1) ∈ tx_R)
    (h : ab_hp G Z o isI ins k st cs = some (st2, cs2)) (hP : va_P D cl (ab_w K ad 0 cs) H) (hD : va_D A (ab_w K ad 0 cs)) (hS : va_S A s.heap H locs)
    (kk : ∀ (H1 : Heap) (locs1 : List Loc), va_P D cl (ab_w K ad 0 cs2) H1 → va_D A (ab_w K ad 0 cs2) → va_S A s.heap H1 locs1 → W p l e R s m args below meth c H1 locs1 cells slots Q (F0 m (pc + len) ls (st2.map (ab_v ad)))) : W p l e R s m args below meth c H locs cells slots Q (F0 m pc ls (st.map (ab_v ad))) := by
  have hR : 1 ≤ R.frames ∧ 100 ≤ R.locals := ⟨by omega, hR4.2⟩
  have same : ∀ {n : Nat}, len = n → cs2 = cs → W p l e R s m args below meth c H locs cells slots Q (F0 m (pc + n) ls (st2.map (ab_v ad))) := fun hn q => by
    subst hn
    subst q
    exact kk H locs hP hD hS
  unfold ab_hp at h
  split at h
  · split at h
    · obtain rfl := ab_len (n := 2) rfl hln
      exact ab_gf_ok hx hb hown hts hG hK hdg hW h hP (same rfl)
    · cases h
  · split at h
    · obtain rfl := ab_len (n := 2) rfl hln
      exact ab_pf_ok hx hb hown hts hG howG hI hK hdg hW h hP hD hS kk
    · cases h
  · obtain rfl := ab_len (n := 0) rfl hln
    exact ab_ia_ok hx hb hK hTT hS hdg h hP (same rfl)
  · obtain rfl := ab_len (n := 0) rfl hln
    exact ab_la_ok hx hb hK hdg h hP (same rfl)
  · obtain rfl := ab_len (n := 0) rfl hln
    exact ab_aa_ok hx hb hK hdg h hP (same rfl)
  · obtain rfl := ab_len (n := 0) rfl hln
    exact ab_is_ok hx hb hK hdg h hP hD hS kk
  · obtain rfl := ab_len (n := 0) rfl hln
    exact ab_lst_ok hx hb hK hdg h hP hD hS kk
  · obtain rfl := ab_len (n := 0) rfl hln
    exact ab_as_ok hx hb hG hcq hK hdg h hP hD hS kk
  · obtain rfl := ab_len (n := 0) rfl hln
    exact ab_al_ok hx hb hK hTT hS hdg h hP (same rfl)
  · rename_i i
    obtain rfl := ab_len (n := 2) rfl hln
    split at h
    · rename_i h7
      have hw : ∀ w ∈ ([.methodLink own i Lib.Math.max.name, .static Lib.Math.max.name, .initialized "java/lang/Math", .code Lib.Math.max.name Lib.Math.max.code 2 (some .int)] : List Jvm.Cond), w.before args s = true := fun w q => hW w (by unfold ab_wd; dsimp only; rw [if_pos h7]; exact q)
      exact ab_mx_ok hx hb hml hown hR hce hsl hdg (hw _ (by simp)) (hw _ (by simp)) (hw _ (by simp)) (hw _ (by simp)) h (same rfl)
    · rename_i h7
      split at h
      · rename_i h8
        have hw : ∀ w ∈ ([.methodLink own i Lib.Math.min.name, .static Lib.Math.min.name, .initialized "java/lang/Math", .code Lib.Math.min.name Lib.Math.min.code 2 (some .int)] : List Jvm.Cond), w.before args s = true := fun w q => hW w (by unfold ab_wd; dsimp only; rw [if_neg h7, if_pos h8]; exact q)
        exact ab_mn_ok hx hb hml hown hR hce hsl hdg (hw _ (by simp)) (hw _ (by simp)) (hw _ (by simp)) (hw _ (by simp)) h (same rfl)
      · rename_i h8
        split at h
        · rename_i h9
          have hw : ∀ w ∈ ([.methodLink own i arraycopyName, .native arraycopyName, .static arraycopyName, .initialized "java/lang/System"] : List Jvm.Cond), w.before args s = true := fun w q => hW w (by unfold ab_wd; dsimp only; rw [if_neg h7, if_neg h8, if_pos h9]; exact q)
          exact ab_cy_ok hx hb hml hown hR hK hdg (hw _ (by simp)) (hw _ (by simp)) (hw _ (by simp)) (hw _ (by simp)) h hP hD hS kk
        · cases h
  · rename_i i
    obtain rfl := ab_len (n := 2) rfl hln
    split at h
    · rename_i h6
      have hw : ∀ w ∈ ([.methodLink own i objectInit, .instanceMethod objectInit, .code objectInit ⟨#[0xb1]⟩ 1 none] : List Jvm.Cond), w.before args s = true := fun w q => hW w (by unfold ab_wd; dsimp only; rw [if_pos h6]; exact q)
      exact ab_oi_ok hx hb hml hown hR hdg (hw _ (by simp)) (hw _ (by simp)) (hw _ (by simp)) h (same rfl)
    · cases h
  · rename_i i
    obtain rfl := ab_len (n := 2) rfl hln
    split at h
    · rename_i h17
      unfold ab_sl at h
      split at h
      · rename_i a r
        split at h
        · rename_i hq
          obtain ⟨q1, q2, q3⟩ := hq
          cases h
          obtain ⟨e, e7⟩ := ab_off2 a q1 q2
          have kw := tx_len_W (i := a - 2000000) (idx := i) (rest := r.map (ab_v ad)) hx hb hml hown hts hTT.2.2.1 hS hA hR4 hce hsl hdg (fun w q => hWg w (by unfold ab_wd; dsimp only; rw [if_pos h17]; exact q)) e7 (by rw [ab_sm_map]; exact q3) hP (fun H1 locs1 p1 s1 => kk H1 locs1 p1 hD s1)
          rw [e] at kw
          exact kw
        · cases h
      · cases h
    · rename_i h17
      split at h
      · rename_i h18
        unfold ab_sh at h
        split at h
        · rename_i x a r
          split at h
          · rename_i hq
            obtain ⟨q1, q2, q3, q4⟩ := hq
            cases h
            obtain ⟨e, e7⟩ := ab_off2 a q1 q2
            have kw := tx_chr_W (i := a - 2000000) (idx := i) (x := x) (rest := r.map (ab_v ad)) hx hb hml hown hts hTT.2.2.1 hS hA hR4 hce hsl hdg (fun w q => hWg w (by unfold ab_wd; dsimp only; rw [if_neg h17, if_pos h18]; exact q)) e7 q4 (ab_xlt q4 (Nat.lt_trans (tx_Nlt (a - 2000000)) (by decide))) (by rw [ab_sm_map]; exact q3) hP (fun H1 locs1 p1 s1 => kk H1 locs1 p1 hD s1)
            rw [e] at kw
            exact kw
          · cases h
        · cases h
      · cases h
  · split at h
    · rename_i h10
      cases h
      obtain rfl := ab_len (n := 1) rfl hln
      exact lv_ldc hx hb hown (hW _ (by unfold ab_wd; dsimp only; rw [if_pos h10]; exact List.mem_cons_self)) hdg (same rfl rfl)
    · split at h
      · rename_i i h10 h16k
        cases h
        obtain rfl := ab_len (n := 1) rfl hln
        obtain ⟨tx, htx⟩ := h16 i rfl h16k.1
        exact va_ldcS hx hb hown (hTT.2.2.2 _ htx) hdg (same rfl rfl)
      · cases h
  · split at h
    · rename_i h10
      cases h
      obtain rfl := ab_len (n := 2) rfl hln
      exact lv_ldcw hx hb hown (hW _ (by unfold ab_wd; dsimp only; rw [if_pos h10]; exact List.mem_cons_self)) hdg (same rfl rfl)
    · cases h
  · split at h
    · rename_i h11
      cases h
      obtain rfl := ab_len (n := 2) rfl hln
      exact lv_ldc2 hx hb hown (hW _ (by unfold ab_wd; dsimp only; rw [if_pos h11]; exact List.mem_cons_self)) hdg (same rfl rfl)
    · cases h
  · rename_i i
    split at h
    · rename_i h13k
      cases h
      obtain rfl := ab_len (n := 2) rfl hln
      cases hq : Sl[k.2.1]? with
      | none => exact absurd hq (h13 i rfl h13k)
      | some q => exact va_gets hx hb (hTT.2.1 _ _ hq) hS hown (hW _ (by unfold ab_wd; dsimp only; rw [if_pos h13k, hq]; exact List.mem_cons_self)) (fun _ q => q) hdg (same rfl rfl)
    · cases h
  · cases h
/-- a new cell -/
def ab_nx (ad : Nat → Nat) (n q : Nat) : Nat → Nat := fun j => if j = n then q else ad j
theorem ab_nx_old (ad : Nat → Nat) {n : Nat} (hn : n < 1000000) (q : Nat) : ∀ k, k < n ∨ 1000000 ≤ k → ab_nx ad n q k = ad k := fun k hk => if_neg (by omega)
theorem ab_nx_new (ad : Nat → Nat) (n q : Nat) : ab_nx ad n q n = q := if_pos rfl
theorem ab_K_last {t : FieldType} {cA : ClassId} {tys : List (ClassId × FieldType)} (h : va_K D cl (tys ++ [(cA, t)]) s) : va_RA s cA t := (h.2 tys.length (cA, t) (by simp)).2
theorem ab_w_new (K : ab_Q) (ad : Nat → Nat) (cs : List ab_C) (c1 : ab_C) (q : Nat) (hn : cs.length < 1000000) (hf : cs.all (ab_fc cs.length) = true) : ab_w K (ab_nx ad cs.length q) 0 (cs ++ [c1]) = ab_w K ad 0 cs ++ [(q, ab_e K (ab_nx ad cs.length q) c1)] := by
  rw [ab_w_app, ab_w_ext K (ab_nx_old ad hn q) cs 0 (by omega) hf]
  show _ ++ [(ab_nx ad cs.length q (0 + cs.length), _)] = _
  rw [Nat.zero_add, ab_nx_new]
set_option maxHeartbeats 4000000 in
theorem ab_nw_ok (hx : p.tables.exec = Jvm.exec) (hb : c.code = cc) (hown : s.vm.findClass own = some m.cls) (hts : ∀ w ∈ Ts, w.before args s = true) (hG : ab_cg cl Ts G) {cq : Nat} (hcq : ∃ T N ty, G cq = some (Cq, T, N, ty)) (hK : va_K D cl (ab_ty K Cq) s) (hAO : va_AO Cq s) {ins : Instr} {k : ab_K} {c1 : ab_C}
    (hdg : decode cc pc = .ok (ins, len)) (hln : ab_ln ins = len ∨ ab_ln ins = 0) (hW : ∀ w ∈ ab_wd Sl M G own ins k, w.before args s = true) (h : ab_nw G cq ins k st = some (st2, c1)) (hf : cs.all (ab_fc cs.length) = true) (hnn : cs.length < 1000000)
    (hA : ∀ q, H0.size ≤ q → A q) (hce : cells + 1 ≤ R.cells) (hsl : slots + ab_sc c1 ≤ R.slots) (hP : va_P D cl (ab_w K ad 0 cs) H) (hD : va_D A (ab_w K ad 0 cs)) (hS : va_S A H0 H locs)
    (kk : ∀ (q : Nat) (H1 : Heap), va_P D cl (ab_w K (ab_nx ad cs.length q) 0 (cs ++ [c1])) H1 → va_D A (ab_w K (ab_nx ad cs.length q) 0 (cs ++ [c1])) → va_S A H0 H1 locs → W p l e R s m args below meth c H1 locs (cells + 1) (slots + ab_sc c1) Q (F0 m (pc + len) ls (.ref q :: st2.map (ab_v ad)))) : W p l e R s m args below meth c H locs cells slots Q (F0 m pc ls (st.map (ab_v ad))) := by
  unfold ab_nw at h
  split at h
  · rename_i i
    split at h
    · split at h
      · rename_i C T N ty hg
        cases h
        obtain ⟨h1, h2, h3, h4, h5⟩ := hG _ _ _ _ _ hg
        obtain rfl := ab_len (n := 2) rfl hln
        have hw : ∀ w ∈ ([.classLink own i C, .instantiable C N, .initialized C] : List Jvm.Cond), w.before args s = true := fun w q => hW w (by unfold ab_wd; rw [hg]; exact q)
        have hN : ab_sc (.inr (.inr (.inr (k.2.1, ab_df ty N)))) = N := by
          show (ab_df ty N).length = N
          unfold ab_df
          simp
        rw [hN] at hsl kk
        exact va_new hx hb hts h2 ty h3 hown (hw _ (by simp)) (hw _ (by simp)) (hw _ (by simp)) hK hP hD hS hA h1 (ab_dfv ty N) hce hsl hdg (fun q H1 p1 d1 s1 => by
          have he : ab_e K (ab_nx ad cs.length q) (.inr (.inr (.inr (k.2.1, ab_df ty N)))) = .inr (k.2.1, ab_df ty N) := by
            show Sum.inr (k.2.1, (ab_df ty N).map _) = _
            rw [ab_dfl]
          refine kk q H1 ?_ ?_ s1
          · rw [ab_w_new K ad cs _ q hnn hf, he]; exact p1
          · rw [ab_w_new K ad cs _ q hnn hf, he]; exact d1)
      · cases h
    · cases h
  · rename_i ty
    split at h
    · rename_i n r
      split at h
      · cases h
      · rename_i hn
        obtain ⟨hn0, hn1⟩ := not_or.mp hn
        obtain rfl := ab_len (n := 1) rfl hln
        have hw := hW (.arrayClass (newarray.typeOf ty)) (by unfold ab_wd; exact List.mem_cons_self)
        split at h
        · cases h
          have hN : ab_sc (.inl (List.replicate n.toNatClampNeg 0)) = n.toNatClampNeg := by show (List.replicate n.toNatClampNeg (0 : Int32)).length = _; simp
          rw [hN] at hsl kk
          exact va_newa (atype := .int) hx hb hw rfl hK hP hD hS hA (a0 := (n.toNatClampNeg, .inl (fun _ => 0))) (fun _ => rfl) hn0 rfl (by show n.toNatClampNeg * 4 ≤ _; omega) hce hsl hdg (fun q cA H1 k1 p1 d1 s1 => by
            have hc : cA = K.1 := Option.some.inj ((ab_K_last k1).symm.trans (hK.2 0 (K.1, .int) rfl).2)
            subst hc
            have he : ab_e K (ab_nx ad cs.length q) (.inl (List.replicate n.toNatClampNeg 0)) = .inl (K.1, n.toNatClampNeg, .inl (fun _ => 0)) := by
              show Sum.inl (K.1, (List.replicate n.toNatClampNeg (0 : Int32)).length, _) = _
              rw [List.length_replicate]
              congr 4
              funext j
              simp [List.getD_eq_getElem?_getD, List.getElem?_replicate]
              split <;> rfl
            refine kk q H1 ?_ ?_ s1
            · rw [ab_w_new K ad cs _ q hnn hf, he]; exact p1
            · rw [ab_w_new K ad cs _ q hnn hf, he]; exact d1)
        · cases h
          have hN : ab_sc (.inr (.inl (List.replicate n.toNatClampNeg 0))) = n.toNatClampNeg := by show (List.replicate n.toNatClampNeg (0 : Int64)).length = _; simp
          rw [hN] at hsl kk
          exact va_newa (atype := .long) hx hb hw rfl hK hP hD hS hA (a0 := (n.toNatClampNeg, .inr (.inl (fun _ => 0)))) (fun _ => rfl) hn0 rfl (by show n.toNatClampNeg * 8 ≤ _; omega) hce hsl hdg (fun q cA H1 k1 p1 d1 s1 => by
            have hc : cA = K.2.1 := Option.some.inj ((ab_K_last k1).symm.trans (hK.2 1 (K.2.1, .long) rfl).2)
            subst hc
            have he : ab_e K (ab_nx ad cs.length q) (.inr (.inl (List.replicate n.toNatClampNeg 0))) = .inl (K.2.1, n.toNatClampNeg, .inr (.inl (fun _ => 0))) := by
              show Sum.inl (K.2.1, (List.replicate n.toNatClampNeg (0 : Int64)).length, _) = _
              rw [List.length_replicate]
              congr 5
              funext j
              simp [List.getD_eq_getElem?_getD, List.getElem?_replicate]
              split <;> rfl
            refine kk q H1 ?_ ?_ s1
            · rw [ab_w_new K ad cs _ q hnn hf, he]; exact p1
            · rw [ab_w_new K ad cs _ q hnn hf, he]; exact d1)
        · cases h
    · cases h
  · rename_i i
    split at h
    · rename_i n r
      split at h
      · cases h
      · rename_i hn
        obtain ⟨hn0, hn⟩ := not_or.mp hn
        obtain ⟨hn1, hn⟩ := not_or.mp hn
        obtain ⟨hn2, hn3⟩ := not_or.mp hn
        have hn3 := Classical.not_not.mp hn3
        cases h
        obtain rfl := ab_len (n := 2) rfl hln
        obtain ⟨T, N, ty, hg⟩ := hcq
        have hw : (Jvm.Cond.classLink own i Cq).before args s = true := hW _ (by unfold ab_wd; rw [hn3, hg]; exact List.mem_cons_self)
        have hN : ab_sc (.inr (.inr (.inl (List.replicate n.toNatClampNeg none)))) = n.toNatClampNeg := by show (List.replicate n.toNatClampNeg (none : Option Nat)).length = _; simp
        rw [hN] at hsl kk
        exact va_newq hx hb hown hw hAO hK hP hD hS hA hn0 rfl (by omega) hce hsl hdg (fun q cA H1 k1 p1 d1 s1 => by
            obtain ⟨_, _, _, _, _, g1⟩ := ab_K_last k1
            obtain ⟨_, _, _, _, _, g2⟩ := (hK.2 2 (K.2.2, .object Cq) rfl).2
            have hc : cA = K.2.2 := Option.some.inj (g1.symm.trans g2)
            subst hc
            have he : ab_e K (ab_nx ad cs.length q) (.inr (.inr (.inl (List.replicate n.toNatClampNeg none)))) = .inl (K.2.2, n.toNatClampNeg, .inr (.inr (.inr (.inr (fun _ => none))))) := by
              show Sum.inl (K.2.2, (List.replicate n.toNatClampNeg (none : Option Nat)).length, _) = _
              rw [List.length_replicate]
              congr 7
              funext j
              simp [List.getD_eq_getElem?_getD, List.getElem?_replicate]
              split <;> rfl
            refine kk q H1 ?_ ?_ s1
            · rw [ab_w_new K ad cs _ q hnn hf, he]; exact p1
            · rw [ab_w_new K ad cs _ q hnn hf, he]; exact d1)
    · cases h
  · cases h
end ABS4
