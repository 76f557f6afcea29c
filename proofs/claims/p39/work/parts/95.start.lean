/-! THE CLAIM OUT OF ONE WALK OF THE LAW'S BODY. Your part is whole_start (and what it stands on); all else here is the same for every law, but numbers. -/
def R_law : String := "FountainGivesChangeLaw"
def lw_P (b : Addr) (xs : List Int32) (args : Array Value) (s : State) : Prop := args = #[.ref b] ∧ s.IntsAt b xs ∧ xs.length ≤ 3072 ∧ (Jvm.Cond.and given_1 narrow_1).before args s = true
def lw_Q (_ : Array Value) (s : State) (o : Outcome) (t : State) : Prop := o = .returned (some (.int 1)) ∧ Framed s o t [] 600000 7302250
def lw_Z (below : List Frame) (a : Array Value) (s : State) : State → Prop := fun t => ∃ o, t.status = .running ∧ Ended t below o ∧ lw_Q a s o t
/-- the law's own end, with 1 on the stack, nothing written that was there before, its room as the claim has it -/
theorem lw_ret {p : Program} {l : Launch} {e : Env} {s : State} {m : MethodId} {below : List Frame} {meth : Method} {c : Code} {b : Nat} (hx : p.tables.exec = Jvm.exec) (hb : c.code = code) (hr : meth.sig.returnType = ret) (hlocks : meth.locks = false) {pc : Nat} {H : Heap} {ls : Array Slot} (hdg : decode code pc = .ok (.ireturn, 1)) : W p l e room_1 s m #[Value.ref b] below meth c H [] 600000 7302250 (lw_Z below #[Value.ref b] s) (F0 m pc ls [.int 1]) := by
  intro T hT X
  obtain ⟨fs, hret, hrun, hended, hW, hframe⟩ := X.leave (v := some (.int 1)) (hlocks := hlocks) (fun h => by rw [hr] at h; cases h)
  have hmeth' : T.vm.method? m = some meth := X.method'
  refine ⟨T.setFrames fs, ?_, .returned (some (.int 1)), hrun, hended, rfl, ⟨_, rfl⟩, hW, hframe⟩
  jvm_step X.here [X.here.top, hx, hb, hdg, hmeth', hr, ret, narrow_b1]
  (try refine ⟨rfl, ?_⟩); (try refine ⟨rfl, ?_⟩)
  first | (intro acts; rw [hret _ acts rfl rfl rfl]) | rw [hret _ _ rfl rfl rfl]
  exact Steps.refl _
/-- what holds at the law's entry: the machine, the code, the tables' words (any of lw_tbl by 'hts w (by decide +kernel)'), the script of L ints xs at the cell b, what the Statement gives of the start (any of its parts by flat_of_before) -/
def lw_At (p : Program) (s : State) (m : MethodId) (meth : Method) (c : Code) (b L : Nat) (xs : Nat → Int32) : Prop :=
  p.tables.exec = Jvm.exec ∧ c.code = code ∧ meth.sig.returnType = ret ∧ c.maxLocals = 4 ∧ s.vm.findClass R_law = some m.cls ∧ (∀ w ∈ lw_tbl, w.before #[Value.ref b] s = true) ∧ va_X b L xs s s.heap ∧ b < s.heap.size ∧ meth.locks = false ∧ (Jvm.Cond.and given_1 narrow_1).before #[Value.ref b] s = true
/-- from the law's entry: a run of the machine of worlds that answers 1 is the law's end with 1 -/
theorem ab_start {p : Program} {e : Env} {s : State} {m : MethodId} {below : List Frame} {meth : Method} {c : Code} (l : Launch) {b L : Nat} {xs : Nat → Int32} (C0 : lw_At p s m meth c b L xs) {d f F : Nat} {cs2 : List ab_C} (hL : L < 2 ^ 31) (hd : d ≤ 800)
    (h : ab_fr ab_M ab_G (3, ab_Tb ++ [(List.range L).map xs]) (fun y As cs => ab_run ab_M ab_G ab_Z0 d f y As cs) mL_law F (0, [some (.ref 1000002), none, none, none], [], []) = some (some (.int 1), cs2)) (h1 : cs2.length ≤ 600000) (h2 : ab_sz cs2 ≤ 7302250) :
    W p l e room_1 s m #[Value.ref b] below meth c s.heap [] 0 0 (lw_Z below #[Value.ref b] s) (entryFrame m ([Value.ref b] : List Value).toArray 4) := by
  obtain ⟨hx, hb, hr, hml, hown, hts, hX, hbl, hlocks, hgv⟩ := C0
  have hA : ∀ q : Nat, s.heap.size ≤ q → (fun q : Nat => s.heap.size ≤ q) q := fun _ h => h
  have hnA : ∀ a : Nat, a < s.heap.size → ¬ (fun q : Nat => s.heap.size ≤ q) a := fun a h => Nat.not_le.mpr h
  obtain ⟨D, K, hWK⟩ := ab_world hts
  obtain ⟨t0, hT0, hZ0⟩ := ab_stat_ABOVE hts hgv hnA
  obtain ⟨t1, hT1, hZ1⟩ := ab_stat_BODIES hts hgv hnA
  obtain ⟨adK, hTx, hRx⟩ := ab_txt hts hgv hnA
  obtain ⟨ad, a0, a1, a2, a3⟩ : ∃ ad : Nat → Nat, ad 1000000 = t0 ∧ ad 1000001 = t1 ∧ ad 1000002 = b ∧ ∀ j, ad (2000000 + j) = adK j := ⟨fun k => if k = 1000000 then t0 else if k = 1000001 then t1 else if k = 1000002 then b else adK (k - 2000000), rfl, rfl, rfl, fun j => by
    show (if 2000000 + j = 1000000 then t0 else if 2000000 + j = 1000001 then t1 else if 2000000 + j = 1000002 then b else adK (2000000 + j - 2000000)) = adK j
    rw [if_neg (by omega), if_neg (by omega), if_neg (by omega), Nat.add_sub_cancel_left]⟩
  have hTT : ab_TT (ab_Tb ++ [(List.range L).map xs]) ab_Sl ad (fun q : Nat => s.heap.size ≤ q) s s.heap := by
    refine ⟨fun j t q => ?_, fun j q r => ?_, by rw [show (fun j => ad (2000000 + j)) = adK from funext a3]; exact hTx, fun q hq => by rw [a3]; exact hRx q hq⟩
    · match j, q with
      | 0, q => cases q; rw [a0]; exact hT0
      | 1, q => cases q; rw [a1]; exact hT1
      | 2, q =>
        cases q
        rw [a2]
        obtain ⟨scr, g1, g2, g3, g4, g5⟩ := hX
        have hlen : ((List.range L).map xs).length = L := by simp
        rw [hlen]
        refine ⟨scr, g1, g2, g3, by omega, by rw [g4], fun j hj => ?_, hnA b hbl⟩
        rw [g5 j hj]
        show some (Value.int (xs j)) = some (Value.int (((List.range L).map xs).getD j 0))
        rw [List.getD_eq_getElem?_getD, List.getElem?_map, List.getElem?_range hj]
        rfl
      | j + 3, q => simp [ab_Tb] at q
    · match j, r with
      | 0, r => cases r; rw [a0]; exact hZ0
      | 1, r => cases r; rw [a1]; exact hZ1
      | j + 2, r => simp [ab_Sl] at r
  rw [lg_entry_eq]
  have hE := ab_h_entry ad [.ref 1000002] (nL := 4) (by decide)
  have hend : ab_En p l e room_1 s m #[Value.ref b] below meth c (lw_Z below #[Value.ref b] s) D vwCl K mL_law ad [] (fun q : Nat => s.heap.size ≤ q) (some (.int 1)) cs2 := by
    intro pc ins len st ad H locs ls hdg hln hv ha1 ha2 hP hD hS
    unfold ab_re at hv
    split at hv
    · split at hv
      · obtain rfl := ab_len (n := 0) rfl hln
        split at hv
        · cases hv
          exact W.widen (k := 600000) (n := 7302250) (by simpa using h1) (Nat.le_trans (Nat.sub_le _ _) h2) (va_forget (fun q hq => hS.2.2 q hq) (lw_ret hx hb hr hlocks hdg))
        · split at hv
          · cases hv
            exact W.widen (k := 600000) (n := 7302250) (by simpa using h1) (Nat.le_trans (Nat.sub_le _ _) h2) (va_forget (fun q hq => hS.2.2 q hq) (lw_ret hx hb hr hlocks hdg))
          · cases hv
        · cases hv
      · cases hv
    · split at hv
      · split at hv <;> cases hv
      · cases hv
    · split at hv
      · split at hv <;> cases hv
      · cases hv
    · split at hv
      · split at hv
        · split at hv <;> cases hv
        · cases hv
      · cases hv
    · cases hv
  have h3 := ab_fr_W (Cq := (RX3, ab_Nl, ab_Tb ++ [(List.range L).map xs], ab_Sl)) (Z := (3, ab_Tb ++ [(List.range L).map xs])) (M := ab_M) (G := ab_G) (Ws := ab_Ws) (Ts := lw_tbl) (D := D) (cl := vwCl) (K := K) (d := d) (md := mL_law) (cs0 := []) (ad0 := ad) (below := below) (l := l) (e := e) (R := room_1) (A := fun q : Nat => s.heap.size ≤ q) hx hb hml hown (fun q => by cases q) hts ab_Ws_tbl (fun ci C T N ty hg => ⟨(ab_cgW ci C T N ty hg).1, fun w hw => (ab_Ws_tbl w ((ab_cgW ci C T N ty hg).2.1 w hw)).1, (ab_cgW ci C T N ty hg).2.2⟩) ab_cqW rfl hWK (fun C T N ty hg => by cases hg)
    (fun pc ins len k ps hat => ⟨(ab_law_at pc ins len k ps hat).1, fun w hw => ⟨(ab_Ws_tbl w ((ab_law_at pc ins len k ps hat).2.1 w hw)).1, (ab_law_at pc ins len k ps hat).2.1 w hw⟩, (ab_law_at pc ins len k ps hat).2.2⟩) ab_M_ok (fun y As cs v cs2 hc => ab_run_le d f y As cs v cs2 hc) (fun y As cs v cs2 my hmy hc => ab_Mt_more (ab_met hmy hc) [(List.range L).map xs]) hA hTT (show cs2.length - 0 ≤ 600000 from h1) (Nat.le_trans (Nat.sub_le _ _) h2) (show d + 4 ≤ 2048 by omega) (show 100 * (d + 1) ≤ 84000 by omega) hend F 0 _ [] [] h (Nat.le_refl _) (Nat.le_refl _) ad s.heap [] _ (fun _ => rfl) (fun _ _ => rfl) (fun k q h => by simp [ab_w] at h) ⟨fun i j p q h => by simp [ab_w] at h, fun k q h => by simp [ab_w] at h⟩ va_S.rf hE
  have hmap : [Value.ref 1000002].map (ab_v ad) = [.ref b] := by
    show [Value.ref (ad 1000002)] = _
    rw [a2]
  rw [hmap] at h3
  exact h3
