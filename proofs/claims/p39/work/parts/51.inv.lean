/-! what holds between calls; by program (wip/tools/op.py) -/
def qLn (s : ab_q) : Prop := (qK s).length = 9 ∧ (qA s).length = 9 ∧ (qB s).length = 9 ∧ (qP s).length = 9 ∧ (qU s).length = 6 ∧ (qL s).length = 6 ∧ (qW s).length = 6 ∧ (qG s).length = 6 ∧ (qC s).length = 8
theorem qI.ln {s : ab_q} (I : qI s) : qLn s := ⟨I.1.1, I.1.2.1, I.1.2.2.1, I.1.2.2.2, I.2.1.1, I.2.1.2.1, I.2.1.2.2.1, I.2.1.2.2.2.1, I.2.1.2.2.2.2⟩
/-- a square as the reference keeps it in a row of 75 ints, over what stood there -/
def qFn (s : ab_q) (g : List Int32) : List Int32 := ((((((ab_cp ((qC s).map nI) (ab_cp (qG s) (ab_cp ((qW s).map nI) (ab_cp ((qL s).map nI) (ab_cp ((qU s).map nI) (ab_cp ((qP s).map nI) (ab_cp ((qB s).map nI) (ab_cp ((qA s).map nI) (ab_cp ((qK s).map nI) g 0 0 9) 0 9 9) 0 18 9) 0 27 9) 0 36 6) 0 42 6) 0 48 6) 0 54 6) 0 60 8).set 68 (nI (qN s))).set 69 (nI (qM s))).set 70 (qR s)).set 71 (qY s)).set 72 (qD s)).set 73 (qS s)
/-- THE IMAGE -/
def iM (im : Int32) (k : ab_q) (g48 : Int32) (kp : List Int32) : Prop := (im = nI 0 ∧ g48 = nI 0) ∨ (im = nI 1 ∧ g48 = nI 1 ∧ qI k ∧ ∃ e, e.length = 75 ∧ kp = qFn k e)
/-- THE TRACE -/
def iT (m1 : Int32) (bd : List Int32) (g47 : Int32) (tr : List Int32) : Prop := ∃ n, n ≤ 100 ∧ m1 = nI n ∧ g47 = nI n ∧ ∀ i, i < 20 → i < n → bd.getD i 0 = tr.getD i 0
/-- a shelf: NOTHING, a PIECE, a ROW -/
def iZ (n : Nat) (h z : Int32) (e : List Int64) (m o i : Nat) (w : Int32) (c : List Int64) (j : Nat) : Prop := (h = -1 ∧ z = nI 0 ∧ m = 0) ∨ (∃ x, x < n ∧ h = nI x ∧ z = nI 0 ∧ m = 2 ∧ w = nI x) ∨ (h = nI (100 + o) ∧ z = nI i ∧ m = 1 ∧ o ≤ 3 ∧ i ≤ 160 ∧ ∀ q, q < 160 → e.getD q 0 = c.getD (160 * j + q) 0)
def iS (s : ab_q) (hd sz : Nat → Int32) (el : Nat → List Int64) (hm so si : List Nat) (sh : List Int32) (ce : List Int64) : Prop := ∀ j, j < 8 → iZ (qN s) (hd j) (sz j) (el j) (hm.getD j 0) (so.getD j 0) (si.getD j 0) (sh.getD j 0) ce j
def wI (x : St) : Prop := match x with
  | (im, lf, s, d, k, ls, rf, rz, ra, rn, rq, lt, m1, m2, m3, m4, bd, fc, hd, sz, el, t, g, fm, hm, so, si, sh, ce, ca, td, wa, kp, la, bf, oo, bo, pw, ow, tr) => (qI s) ∧ (s = t) ∧ (lf = g 6) ∧ (qLn d ∧ qLn k ∧ qLn rq) ∧ (iM im k (g 48) kp) ∧ (iT m1 bd (g 47) tr) ∧ (iS s hd sz el hm so si sh ce) ∧ (∀ j, j < 8 → (el j).length = 160) ∧ (ls.length = 100) ∧ (lt.length = 160) ∧ (bd.length = 20) ∧ (fc.length = 8) ∧ (fm.length = 8) ∧ (hm.length = 8) ∧ (so.length = 8) ∧ (si.length = 8) ∧ (sh.length = 8) ∧ (ce.length = 1280) ∧ (ca.length = 160) ∧ (td.length = 3) ∧ (wa.length = 75) ∧ (kp.length = 75) ∧ (la.length = 75) ∧ (bf.length = 100) ∧ (oo.length = 6) ∧ (bo.length = 6) ∧ (pw.length = 42) ∧ (ow.length = 63) ∧ (tr.length = 20)
