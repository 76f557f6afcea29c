/-! more rows: texts, copies, numbers of either sign -/
theorem ab_int (x : Int32) : (∃ k, k < 2147483648 ∧ x = nI k) ∨ x.toInt < 0 := by
  by_cases h : x.toInt < 0
  · exact Or.inr h
  · refine Or.inl ⟨x.toInt.toNat, ?_, ?_⟩
    · have := Int32.toInt_lt x
      omega
    · apply Int32.toInt_inj.mp
      rw [nI_toInt (by have := Int32.toInt_lt x; omega)]
      omega
theorem ab_dec {k : Nat} (h : 1 ≤ k) : nI k + Int32.ofInt (-1) = nI (k - 1) := by
  obtain ⟨j, rfl⟩ : ∃ j, k = j + 1 := ⟨k - 1, by omega⟩
  show nI (j + 1) + (-1) = nI j
  rw [← nI_1 j, Int32.add_assoc]
  show nI j + (Int32.ofInt 1 + -1) = nI j
  rw [show Int32.ofInt 1 + (-1) = 0 from by decide]
  simp
theorem ab_tsO {x : Int32} {a lo hi : Int} (hx : x.toInt = a) (h : a < lo ∨ hi < a) : x.toInt < lo ∨ hi < x.toInt := by
  rw [hx]
  exact h
theorem ab_reZ {x : Nat} (h : x < 2) : (if nI x = 0 ∨ nI x = 1 then some (some (Value.int (nI x))) else none) = some (some (.int (nI x))) := by
  match x, h with
  | 0, _ => rfl
  | 1, _ => rfl
theorem ab_ite_t {α : Type} {p : Prop} [Decidable p] {a b : α} (h : p) : (if p then a else b) = a := if_pos h
theorem ab_ite_f {α : Type} {p : Prop} [Decidable p] {a b : α} (h : ¬ p) : (if p then a else b) = b := if_neg h
theorem ab_ltI {x y : Int32} {a b : Int} (hx : x.toInt = a) (hy : y.toInt = b) (h : a < b) : x < y := by
  rw [Int32.lt_iff_toInt_lt, hx, hy]
  exact h
theorem ab_nltI {x y : Int32} {a b : Int} (hx : x.toInt = a) (hy : y.toInt = b) (h : b ≤ a) : ¬ x < y := fun q => by
  rw [Int32.lt_iff_toInt_lt, hx, hy] at q
  omega
theorem ab_cp_all {α : Type} {f g : List α} {n : Nat} (hf : f.length = n) (hg : g.length = n) : ab_cp f g 0 0 n = f := by
  unfold ab_cp
  rw [List.drop_zero, List.take_zero, List.nil_append, Nat.zero_add, List.take_of_length_le (by omega), List.drop_of_length_le (by omega), List.append_nil]
theorem ab_cp_map (f g : List Nat) (p q n : Nat) : ab_cp (f.map nI) (g.map nI) p q n = (ab_cp f g p q n).map nI := by
  unfold ab_cp
  simp only [List.map_append, List.map_take, List.map_drop]
theorem ab_em (p : Prop) : p ∨ ¬ p := Classical.em p
section ER2
variable {Z : ab_Z} {d : Nat} {md : ab_D} {pc : Nat} {L L2 : ab_L} {st r0 : List Value} {cs cs2 : List ab_C} {r : Option Value × List ab_C} {k : ab_K} {ps : List Nat}
theorem E_tsIN {dflt lo hi off : Int} {offs : Array Int} {len t x c : Nat} (h : ab_at md pc = some (.tableswitch dflt lo hi offs, len, k, ps)) (hx : x = c) (hn : ¬ ((nI c).toInt < lo ∨ hi < (nI c).toInt)) (ho : offs[((nI c).toInt - lo).toNat]? = some off) (ht : ab_tg pc off = some t) (K : Ef Z d md (t, L, r0, cs) r) : Ef Z d md (pc, L, .int (nI x) :: r0, cs) r := by
  subst hx
  exact E_tsIn h hn ho ht K
theorem E_aret {x : Nat} (h : ab_at md pc = some (.areturn, 1, k, ps)) (hr : ab_re md.2.2.2.1 .areturn [.ref x] = some (some (.ref x))) : Ef Z d md (pc, L, [.ref x], cs) (some (.ref x), cs) :=
  Ef.re h (Or.inl rfl) rfl rfl rfl hr
theorem E_ldcS {i j b t : Nat} (h : ab_at md pc = some (.ldc i, 2, (16, j, b), ps)) (hj : j < 7) (ht : 2000000 + j = t) (K : Ef Z d md (pc + 2, L, .ref t :: st, cs) r) : Ef Z d md (pc, L, st, cs) r :=
  Ef.hp h (Or.inl rfl) (ab_pu_none (fun _ => rfl) (fun _ => rfl) (fun _ _ => rfl) st) rfl (by show (if (16 : Nat) = 10 then some (Value.int (Int32.ofNat j) :: st, cs) else if 16 = 16 ∧ j < 7 then some (Value.ref (2000000 + j) :: st, cs) else none) = _; rw [if_neg (by decide), if_pos ⟨rfl, hj⟩, ht]) K
theorem E_slen {i a b q : Nat} {z : Int32} (h : ab_at md pc = some (.invokevirtual i, 3, (17, a, b), ps)) (hq : 2000000 ≤ q ∧ q < 2000007) (hs : ab_sm r0 ≤ 8) (hz : Int32.ofNat (tx_N.getD (q - 2000000) 0) = z) (K : Ef Z d md (pc + 3, L, .int z :: r0, cs) r) : Ef Z d md (pc, L, .ref q :: r0, cs) r :=
  Ef.hp h (Or.inl rfl) rfl rfl (by show ab_sl (.ref q :: r0) cs = _; unfold ab_sl; dsimp only; rw [if_pos ⟨hq.1, hq.2, hs⟩, hz]) K
theorem E_schr {i a b q : Nat} {x z : Int32} (h : ab_at md pc = some (.invokevirtual i, 3, (18, a, b), ps)) (hq : 2000000 ≤ q ∧ q < 2000007) (hs : ab_sm r0 ≤ 8) (hx : ¬ (x < 0 ∨ tx_N.getD (q - 2000000) 0 ≤ x.toNatClampNeg)) (hz : tx_V (q - 2000000) x.toNatClampNeg = z) (K : Ef Z d md (pc + 3, L, .int z :: r0, cs) r) : Ef Z d md (pc, L, .int x :: .ref q :: r0, cs) r :=
  Ef.hp h (Or.inl rfl) rfl rfl (by show ab_sh (.int x :: .ref q :: r0) cs = _; unfold ab_sh; dsimp only; rw [if_pos ⟨hq.1, hq.2, hs, hx⟩, hz]) K
theorem ab_cpn {p q n : Nat} {r0 : List Value} (hp : p < 2 ^ 31) (hq : q < 2 ^ 31) (hn : n < 2 ^ 31) (hs : ab_sm r0 ≤ 8) : ¬ (nI n < 0 ∨ nI q < 0 ∨ nI p < 0 ∨ 8 < ab_sm r0) := by
  rintro (h | h | h | h)
  · exact nI_pos hn h
  · exact nI_pos hq h
  · exact nI_pos hp h
  · omega
theorem E_cpI {i a b a0 a1 p q n : Nat} {f g : List Int32} (h : ab_at md pc = some (.invokestatic i, 3, (9, a, b), ps)) (he0 : cs[a0]? = some (.inl f)) (he : cs[a1]? = some (.inl g)) (hb : ((p < 2 ^ 31 ∧ q < 2 ^ 31 ∧ n < 2 ^ 31) ∧ ab_sm r0 ≤ 8) ∧ p + n ≤ f.length ∧ q + n ≤ g.length) (h2 : cs.set a1 (.inl (ab_cp f g p q n)) = cs2) (K : Ef Z d md (pc + 3, L, r0, cs2) r) : Ef Z d md (pc, L, .int (nI n) :: .int (nI q) :: .ref a1 :: .int (nI p) :: .ref a0 :: r0, cs) r :=
  Ef.hp h (Or.inl rfl) rfl rfl (by
    obtain ⟨⟨⟨h3, h4, h5⟩, h6⟩, h7, h8⟩ := hb
    show ab_cy (.int (nI n) :: .int (nI q) :: .ref a1 :: .int (nI p) :: .ref a0 :: r0) cs = some (r0, cs2)
    unfold ab_cy
    dsimp only
    rw [if_neg (ab_cpn h3 h4 h5 h6), he0, he]
    dsimp only
    rw [nI_clamp h3, nI_clamp h4, nI_clamp h5, if_pos ⟨h7, h8⟩, h2]) K
theorem E_cpL {i a b a0 a1 p q n : Nat} {f g : List Int64} (h : ab_at md pc = some (.invokestatic i, 3, (9, a, b), ps)) (he0 : cs[a0]? = some (.inr (.inl f))) (he : cs[a1]? = some (.inr (.inl g))) (hb : ((p < 2 ^ 31 ∧ q < 2 ^ 31 ∧ n < 2 ^ 31) ∧ ab_sm r0 ≤ 8) ∧ p + n ≤ f.length ∧ q + n ≤ g.length) (h2 : cs.set a1 (.inr (.inl (ab_cp f g p q n))) = cs2) (K : Ef Z d md (pc + 3, L, r0, cs2) r) : Ef Z d md (pc, L, .int (nI n) :: .int (nI q) :: .ref a1 :: .int (nI p) :: .ref a0 :: r0, cs) r :=
  Ef.hp h (Or.inl rfl) rfl rfl (by
    obtain ⟨⟨⟨h3, h4, h5⟩, h6⟩, h7, h8⟩ := hb
    show ab_cy (.int (nI n) :: .int (nI q) :: .ref a1 :: .int (nI p) :: .ref a0 :: r0) cs = some (r0, cs2)
    unfold ab_cy
    dsimp only
    rw [if_neg (ab_cpn h3 h4 h5 h6), he0, he]
    dsimp only
    rw [nI_clamp h3, nI_clamp h4, nI_clamp h5, if_pos ⟨h7, h8⟩, h2]) K
/-- a whole row of Nats, copied -/
theorem E_cpN {i a b a0 a1 n : Nat} {f g : List Nat} (h : ab_at md pc = some (.invokestatic i, 3, (9, a, b), ps)) (he0 : cs[a0]? = some (.inl (f.map nI))) (he : cs[a1]? = some (.inl (g.map nI))) (hb : (n < 2 ^ 31 ∧ ab_sm r0 ≤ 8) ∧ f.length = n ∧ g.length = n) (h2 : cs.set a1 (.inl (f.map nI)) = cs2) (K : Ef Z d md (pc + 3, L, r0, cs2) r) : Ef Z d md (pc, L, .int (nI n) :: .int (nI 0) :: .ref a1 :: .int (nI 0) :: .ref a0 :: r0, cs) r :=
  E_cpI (p := 0) (q := 0) h he0 he ⟨⟨⟨by decide, by decide, hb.1.1⟩, hb.1.2⟩, by rw [List.length_map]; omega, by rw [List.length_map]; omega⟩ (by rw [ab_cp_map, ab_cp_all hb.2.1 hb.2.2]; exact h2) K
/-- a whole row of ints, copied -/
theorem E_cpW {i a b a0 a1 n : Nat} {f g : List Int32} (h : ab_at md pc = some (.invokestatic i, 3, (9, a, b), ps)) (he0 : cs[a0]? = some (.inl f)) (he : cs[a1]? = some (.inl g)) (hb : (n < 2 ^ 31 ∧ ab_sm r0 ≤ 8) ∧ f.length = n ∧ g.length = n) (h2 : cs.set a1 (.inl f) = cs2) (K : Ef Z d md (pc + 3, L, r0, cs2) r) : Ef Z d md (pc, L, .int (nI n) :: .int (nI 0) :: .ref a1 :: .int (nI 0) :: .ref a0 :: r0, cs) r :=
  E_cpI (p := 0) (q := 0) h he0 he ⟨⟨⟨by decide, by decide, hb.1.1⟩, hb.1.2⟩, by omega, by omega⟩ (by rw [ab_cp_all hb.2.1 hb.2.2]; exact h2) K
theorem E_aalN {a j b : Nat} {l : List (Option Nat)} (h : ab_at md pc = some (.aaload, 1, k, ps)) (hc : cs[a]? = some (.inr (.inr (.inl l)))) (hj : j < 2 ^ 31) (hx : l[j]? = some (some b)) (K : Ef Z d md (pc + 1, L, .ref b :: r0, cs) r) : Ef Z d md (pc, L, .int (nI j) :: .ref a :: r0, cs) r :=
  E_aaload (j := j) h hc (nI_pos hj) (nI_clamp hj) hx K
end ER2
