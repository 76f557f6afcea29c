/-! the whole world, as a function of what it holds; by program (wip/tools/world.py) -/
def ww (im : Int32) (lf : Int32) (s : ab_q) (d : ab_q) (k : ab_q) (ls : List Int32) (rf : Int32) (rz : Int32) (ra : Int32) (rn : Int32) (rq : ab_q) (lt : List Int32) (m1 : Int32) (m2 : Int32) (m3 : Int32) (m4 : Int32) (bd : List Int32) (fc : List Int32) (hd : Nat → Int32) (sz : Nat → Int32) (el : Nat → List Int64) (t : ab_q) (g : Nat → Int32) (fm : List Int32) (hm : List Nat) (so : List Nat) (si : List Nat) (sh : List Int32) (ce : List Int64) (ca : List Int64) (td : List Int32) (wa : List Int32) (kp : List Int32) (la : List Int32) (bf : List Int32) (oo : List Int32) (bo : List Int32) (pw : List Int32) (ow : List Int32) (tr : List Int32) : List ab_C := [
  .inr (.inr (.inr (5, [.ref 1, .ref 11, .ref 21, .ref 31, .ref 32, .ref 34, .ref 46, .ref 48, .int im, .int lf]))),
  .inr (.inr (.inr (4, [.ref 2, .ref 3, .ref 4, .ref 5, .ref 6, .ref 7, .ref 8, .ref 9, .ref 10, .int (nI (qN s)), .int (nI (qM s)), .int (qR s), .int (qY s), .int (qD s), .int (qS s)]))),
  .inl ((qK s).map nI),
  .inl ((qA s).map nI),
  .inl ((qB s).map nI),
  .inl ((qP s).map nI),
  .inl ((qU s).map nI),
  .inl ((qL s).map nI),
  .inl ((qW s).map nI),
  .inl (qG s),
  .inl ((qC s).map nI),
  .inr (.inr (.inr (4, [.ref 12, .ref 13, .ref 14, .ref 15, .ref 16, .ref 17, .ref 18, .ref 19, .ref 20, .int (nI (qN d)), .int (nI (qM d)), .int (qR d), .int (qY d), .int (qD d), .int (qS d)]))),
  .inl ((qK d).map nI),
  .inl ((qA d).map nI),
  .inl ((qB d).map nI),
  .inl ((qP d).map nI),
  .inl ((qU d).map nI),
  .inl ((qL d).map nI),
  .inl ((qW d).map nI),
  .inl (qG d),
  .inl ((qC d).map nI),
  .inr (.inr (.inr (4, [.ref 22, .ref 23, .ref 24, .ref 25, .ref 26, .ref 27, .ref 28, .ref 29, .ref 30, .int (nI (qN k)), .int (nI (qM k)), .int (qR k), .int (qY k), .int (qD k), .int (qS k)]))),
  .inl ((qK k).map nI),
  .inl ((qA k).map nI),
  .inl ((qB k).map nI),
  .inl ((qP k).map nI),
  .inl ((qU k).map nI),
  .inl ((qL k).map nI),
  .inl ((qW k).map nI),
  .inl (qG k),
  .inl ((qC k).map nI),
  .inr (.inr (.inl [some 49, some 51, some 53, some 55, some 57, some 59, some 61, some 63])),
  .inr (.inr (.inr (0, [.ref 33]))),
  .inl ls,
  .inr (.inr (.inr (2, [.ref 35, .int rf, .ref 45, .int rz, .int ra, .int rn]))),
  .inr (.inr (.inr (4, [.ref 36, .ref 37, .ref 38, .ref 39, .ref 40, .ref 41, .ref 42, .ref 43, .ref 44, .int (nI (qN rq)), .int (nI (qM rq)), .int (qR rq), .int (qY rq), .int (qD rq), .int (qS rq)]))),
  .inl ((qK rq).map nI),
  .inl ((qA rq).map nI),
  .inl ((qB rq).map nI),
  .inl ((qP rq).map nI),
  .inl ((qU rq).map nI),
  .inl ((qL rq).map nI),
  .inl ((qW rq).map nI),
  .inl (qG rq),
  .inl ((qC rq).map nI),
  .inl lt,
  .inr (.inr (.inr (1, [.ref 47, .int m1, .int m2, .int m3, .int m4]))),
  .inl bd,
  .inl fc,
  .inr (.inr (.inr (3, [.ref 50, .int (hd 0), .int (sz 0)]))),
  .inr (.inl (el 0)),
  .inr (.inr (.inr (3, [.ref 52, .int (hd 1), .int (sz 1)]))),
  .inr (.inl (el 1)),
  .inr (.inr (.inr (3, [.ref 54, .int (hd 2), .int (sz 2)]))),
  .inr (.inl (el 2)),
  .inr (.inr (.inr (3, [.ref 56, .int (hd 3), .int (sz 3)]))),
  .inr (.inl (el 3)),
  .inr (.inr (.inr (3, [.ref 58, .int (hd 4), .int (sz 4)]))),
  .inr (.inl (el 4)),
  .inr (.inr (.inr (3, [.ref 60, .int (hd 5), .int (sz 5)]))),
  .inr (.inl (el 5)),
  .inr (.inr (.inr (3, [.ref 62, .int (hd 6), .int (sz 6)]))),
  .inr (.inl (el 6)),
  .inr (.inr (.inr (3, [.ref 64, .int (hd 7), .int (sz 7)]))),
  .inr (.inl (el 7)),
  .inr (.inr (.inr (6, mOb t g))),
  .inl fm,
  .inl ((qK t).map nI),
  .inl ((qA t).map nI),
  .inl ((qB t).map nI),
  .inl ((qP t).map nI),
  .inl ((qU t).map nI),
  .inl ((qL t).map nI),
  .inl ((qW t).map nI),
  .inl (qG t),
  .inl ((qC t).map nI),
  .inl (hm.map nI),
  .inl (so.map nI),
  .inl (si.map nI),
  .inl sh,
  .inr (.inl ce),
  .inr (.inl ca),
  .inl (([112, 105, 101, 99, 101, 32, 0, 112, 101, 114, 115, 111, 110, 32, 0, 99, 111, 115, 116, 32, 0, 104, 97, 115, 32, 0, 98, 97, 99, 107, 32, 0, 103, 114, 101, 101, 100, 121, 0, 98, 101, 115, 116, 0] : List Nat).map nI),
  .inl (([3, 3, 2, 2, 1, 0, 0] : List Nat).map nI),
  .inl (([6, 9, 50, 99, 9, 7, 7, 60] : List Nat).map nI),
  .inl td,
  .inl wa,
  .inl kp,
  .inl la,
  .inl bf,
  .inl oo,
  .inl bo,
  .inl pw,
  .inl ow,
  .inl tr]
abbrev St : Type := Int32 × Int32 × ab_q × ab_q × ab_q × List Int32 × Int32 × Int32 × Int32 × Int32 × ab_q × List Int32 × Int32 × Int32 × Int32 × Int32 × List Int32 × List Int32 × (Nat → Int32) × (Nat → Int32) × (Nat → List Int64) × ab_q × (Nat → Int32) × List Int32 × List Nat × List Nat × List Nat × List Int32 × List Int64 × List Int64 × List Int32 × List Int32 × List Int32 × List Int32 × List Int32 × List Int32 × List Int32 × List Int32 × List Int32 × List Int32
def wt (x : St) : List ab_C := match x with
  | (im, lf, s, d, k, ls, rf, rz, ra, rn, rq, lt, m1, m2, m3, m4, bd, fc, hd, sz, el, t, g, fm, hm, so, si, sh, ce, ca, td, wa, kp, la, bf, oo, bo, pw, ow, tr) => ww im lf s d k ls rf rz ra rn rq lt m1 m2 m3 m4 bd fc hd sz el t g fm hm so si sh ce ca td wa kp la bf oo bo pw ow tr
section WW
variable {im : Int32} {lf : Int32} {s : ab_q} {d : ab_q} {k : ab_q} {ls : List Int32} {rf : Int32} {rz : Int32} {ra : Int32} {rn : Int32} {rq : ab_q} {lt : List Int32} {m1 : Int32} {m2 : Int32} {m3 : Int32} {m4 : Int32} {bd : List Int32} {fc : List Int32} {hd : Nat → Int32} {sz : Nat → Int32} {el : Nat → List Int64} {t : ab_q} {g : Nat → Int32} {fm : List Int32} {hm : List Nat} {so : List Nat} {si : List Nat} {sh : List Int32} {ce : List Int64} {ca : List Int64} {td : List Int32} {wa : List Int32} {kp : List Int32} {la : List Int32} {bf : List Int32} {oo : List Int32} {bo : List Int32} {pw : List Int32} {ow : List Int32} {tr : List Int32}
variable {im2 : Int32} {lf2 : Int32} {s2 : ab_q} {d2 : ab_q} {k2 : ab_q} {ls2 : List Int32} {rf2 : Int32} {rz2 : Int32} {ra2 : Int32} {rn2 : Int32} {rq2 : ab_q} {lt2 : List Int32} {m12 : Int32} {m22 : Int32} {m32 : Int32} {m42 : Int32} {bd2 : List Int32} {fc2 : List Int32} {hd2 : Nat → Int32} {sz2 : Nat → Int32} {el2 : Nat → List Int64} {t2 : ab_q} {g2 : Nat → Int32} {fm2 : List Int32} {hm2 : List Nat} {so2 : List Nat} {si2 : List Nat} {sh2 : List Int32} {ce2 : List Int64} {ca2 : List Int64} {td2 : List Int32} {wa2 : List Int32} {kp2 : List Int32} {la2 : List Int32} {bf2 : List Int32} {oo2 : List Int32} {bo2 : List Int32} {pw2 : List Int32} {ow2 : List Int32} {tr2 : List Int32}
theorem w_len : (ww im lf s d k ls rf rz ra rn rq lt m1 m2 m3 m4 bd fc hd sz el t g fm hm so si sh ce ca td wa kp la bf oo bo pw ow tr).length = 95 := rfl
theorem w_lens : (ww im lf s d k ls rf rz ra rn rq lt m1 m2 m3 m4 bd fc hd sz el t g fm hm so si sh ce ca td wa kp la bf oo bo pw ow tr).length = (ww im2 lf2 s2 d2 k2 ls2 rf2 rz2 ra2 rn2 rq2 lt2 m12 m22 m32 m42 bd2 fc2 hd2 sz2 el2 t2 g2 fm2 hm2 so2 si2 sh2 ce2 ca2 td2 wa2 kp2 la2 bf2 oo2 bo2 pw2 ow2 tr2).length := rfl
theorem w_none (n : Nat) : (ww im lf s d k ls rf rz ra rn rq lt m1 m2 m3 m4 bd fc hd sz el t g fm hm so si sh ce ca td wa kp la bf oo bo pw ow tr)[1000000 + n]? = none := List.getElem?_eq_none (by rw [w_len]; omega)
theorem w0 : (ww im lf s d k ls rf rz ra rn rq lt m1 m2 m3 m4 bd fc hd sz el t g fm hm so si sh ce ca td wa kp la bf oo bo pw ow tr)[0]? = some (.inr (.inr (.inr (5, [.ref 1, .ref 11, .ref 21, .ref 31, .ref 32, .ref 34, .ref 46, .ref 48, .int im, .int lf])))) := rfl
theorem w1 : (ww im lf s d k ls rf rz ra rn rq lt m1 m2 m3 m4 bd fc hd sz el t g fm hm so si sh ce ca td wa kp la bf oo bo pw ow tr)[1]? = some (.inr (.inr (.inr (4, [.ref 2, .ref 3, .ref 4, .ref 5, .ref 6, .ref 7, .ref 8, .ref 9, .ref 10, .int (nI (qN s)), .int (nI (qM s)), .int (qR s), .int (qY s), .int (qD s), .int (qS s)])))) := rfl
theorem w2 : (ww im lf s d k ls rf rz ra rn rq lt m1 m2 m3 m4 bd fc hd sz el t g fm hm so si sh ce ca td wa kp la bf oo bo pw ow tr)[2]? = some (.inl ((qK s).map nI)) := rfl
theorem w3 : (ww im lf s d k ls rf rz ra rn rq lt m1 m2 m3 m4 bd fc hd sz el t g fm hm so si sh ce ca td wa kp la bf oo bo pw ow tr)[3]? = some (.inl ((qA s).map nI)) := rfl
theorem w4 : (ww im lf s d k ls rf rz ra rn rq lt m1 m2 m3 m4 bd fc hd sz el t g fm hm so si sh ce ca td wa kp la bf oo bo pw ow tr)[4]? = some (.inl ((qB s).map nI)) := rfl
theorem w5 : (ww im lf s d k ls rf rz ra rn rq lt m1 m2 m3 m4 bd fc hd sz el t g fm hm so si sh ce ca td wa kp la bf oo bo pw ow tr)[5]? = some (.inl ((qP s).map nI)) := rfl
theorem w6 : (ww im lf s d k ls rf rz ra rn rq lt m1 m2 m3 m4 bd fc hd sz el t g fm hm so si sh ce ca td wa kp la bf oo bo pw ow tr)[6]? = some (.inl ((qU s).map nI)) := rfl
theorem w7 : (ww im lf s d k ls rf rz ra rn rq lt m1 m2 m3 m4 bd fc hd sz el t g fm hm so si sh ce ca td wa kp la bf oo bo pw ow tr)[7]? = some (.inl ((qL s).map nI)) := rfl
theorem w8 : (ww im lf s d k ls rf rz ra rn rq lt m1 m2 m3 m4 bd fc hd sz el t g fm hm so si sh ce ca td wa kp la bf oo bo pw ow tr)[8]? = some (.inl ((qW s).map nI)) := rfl
theorem w9 : (ww im lf s d k ls rf rz ra rn rq lt m1 m2 m3 m4 bd fc hd sz el t g fm hm so si sh ce ca td wa kp la bf oo bo pw ow tr)[9]? = some (.inl (qG s)) := rfl
theorem w10 : (ww im lf s d k ls rf rz ra rn rq lt m1 m2 m3 m4 bd fc hd sz el t g fm hm so si sh ce ca td wa kp la bf oo bo pw ow tr)[10]? = some (.inl ((qC s).map nI)) := rfl
theorem w11 : (ww im lf s d k ls rf rz ra rn rq lt m1 m2 m3 m4 bd fc hd sz el t g fm hm so si sh ce ca td wa kp la bf oo bo pw ow tr)[11]? = some (.inr (.inr (.inr (4, [.ref 12, .ref 13, .ref 14, .ref 15, .ref 16, .ref 17, .ref 18, .ref 19, .ref 20, .int (nI (qN d)), .int (nI (qM d)), .int (qR d), .int (qY d), .int (qD d), .int (qS d)])))) := rfl
theorem w12 : (ww im lf s d k ls rf rz ra rn rq lt m1 m2 m3 m4 bd fc hd sz el t g fm hm so si sh ce ca td wa kp la bf oo bo pw ow tr)[12]? = some (.inl ((qK d).map nI)) := rfl
theorem w13 : (ww im lf s d k ls rf rz ra rn rq lt m1 m2 m3 m4 bd fc hd sz el t g fm hm so si sh ce ca td wa kp la bf oo bo pw ow tr)[13]? = some (.inl ((qA d).map nI)) := rfl
theorem w14 : (ww im lf s d k ls rf rz ra rn rq lt m1 m2 m3 m4 bd fc hd sz el t g fm hm so si sh ce ca td wa kp la bf oo bo pw ow tr)[14]? = some (.inl ((qB d).map nI)) := rfl
theorem w15 : (ww im lf s d k ls rf rz ra rn rq lt m1 m2 m3 m4 bd fc hd sz el t g fm hm so si sh ce ca td wa kp la bf oo bo pw ow tr)[15]? = some (.inl ((qP d).map nI)) := rfl
theorem w16 : (ww im lf s d k ls rf rz ra rn rq lt m1 m2 m3 m4 bd fc hd sz el t g fm hm so si sh ce ca td wa kp la bf oo bo pw ow tr)[16]? = some (.inl ((qU d).map nI)) := rfl
theorem w17 : (ww im lf s d k ls rf rz ra rn rq lt m1 m2 m3 m4 bd fc hd sz el t g fm hm so si sh ce ca td wa kp la bf oo bo pw ow tr)[17]? = some (.inl ((qL d).map nI)) := rfl
theorem w18 : (ww im lf s d k ls rf rz ra rn rq lt m1 m2 m3 m4 bd fc hd sz el t g fm hm so si sh ce ca td wa kp la bf oo bo pw ow tr)[18]? = some (.inl ((qW d).map nI)) := rfl
theorem w19 : (ww im lf s d k ls rf rz ra rn rq lt m1 m2 m3 m4 bd fc hd sz el t g fm hm so si sh ce ca td wa kp la bf oo bo pw ow tr)[19]? = some (.inl (qG d)) := rfl
theorem w20 : (ww im lf s d k ls rf rz ra rn rq lt m1 m2 m3 m4 bd fc hd sz el t g fm hm so si sh ce ca td wa kp la bf oo bo pw ow tr)[20]? = some (.inl ((qC d).map nI)) := rfl
theorem w21 : (ww im lf s d k ls rf rz ra rn rq lt m1 m2 m3 m4 bd fc hd sz el t g fm hm so si sh ce ca td wa kp la bf oo bo pw ow tr)[21]? = some (.inr (.inr (.inr (4, [.ref 22, .ref 23, .ref 24, .ref 25, .ref 26, .ref 27, .ref 28, .ref 29, .ref 30, .int (nI (qN k)), .int (nI (qM k)), .int (qR k), .int (qY k), .int (qD k), .int (qS k)])))) := rfl
theorem w22 : (ww im lf s d k ls rf rz ra rn rq lt m1 m2 m3 m4 bd fc hd sz el t g fm hm so si sh ce ca td wa kp la bf oo bo pw ow tr)[22]? = some (.inl ((qK k).map nI)) := rfl
theorem w23 : (ww im lf s d k ls rf rz ra rn rq lt m1 m2 m3 m4 bd fc hd sz el t g fm hm so si sh ce ca td wa kp la bf oo bo pw ow tr)[23]? = some (.inl ((qA k).map nI)) := rfl
theorem w24 : (ww im lf s d k ls rf rz ra rn rq lt m1 m2 m3 m4 bd fc hd sz el t g fm hm so si sh ce ca td wa kp la bf oo bo pw ow tr)[24]? = some (.inl ((qB k).map nI)) := rfl
theorem w25 : (ww im lf s d k ls rf rz ra rn rq lt m1 m2 m3 m4 bd fc hd sz el t g fm hm so si sh ce ca td wa kp la bf oo bo pw ow tr)[25]? = some (.inl ((qP k).map nI)) := rfl
theorem w26 : (ww im lf s d k ls rf rz ra rn rq lt m1 m2 m3 m4 bd fc hd sz el t g fm hm so si sh ce ca td wa kp la bf oo bo pw ow tr)[26]? = some (.inl ((qU k).map nI)) := rfl
theorem w27 : (ww im lf s d k ls rf rz ra rn rq lt m1 m2 m3 m4 bd fc hd sz el t g fm hm so si sh ce ca td wa kp la bf oo bo pw ow tr)[27]? = some (.inl ((qL k).map nI)) := rfl
theorem w28 : (ww im lf s d k ls rf rz ra rn rq lt m1 m2 m3 m4 bd fc hd sz el t g fm hm so si sh ce ca td wa kp la bf oo bo pw ow tr)[28]? = some (.inl ((qW k).map nI)) := rfl
theorem w29 : (ww im lf s d k ls rf rz ra rn rq lt m1 m2 m3 m4 bd fc hd sz el t g fm hm so si sh ce ca td wa kp la bf oo bo pw ow tr)[29]? = some (.inl (qG k)) := rfl
theorem w30 : (ww im lf s d k ls rf rz ra rn rq lt m1 m2 m3 m4 bd fc hd sz el t g fm hm so si sh ce ca td wa kp la bf oo bo pw ow tr)[30]? = some (.inl ((qC k).map nI)) := rfl
theorem w31 : (ww im lf s d k ls rf rz ra rn rq lt m1 m2 m3 m4 bd fc hd sz el t g fm hm so si sh ce ca td wa kp la bf oo bo pw ow tr)[31]? = some (.inr (.inr (.inl [some 49, some 51, some 53, some 55, some 57, some 59, some 61, some 63]))) := rfl
theorem w32 : (ww im lf s d k ls rf rz ra rn rq lt m1 m2 m3 m4 bd fc hd sz el t g fm hm so si sh ce ca td wa kp la bf oo bo pw ow tr)[32]? = some (.inr (.inr (.inr (0, [.ref 33])))) := rfl
theorem w33 : (ww im lf s d k ls rf rz ra rn rq lt m1 m2 m3 m4 bd fc hd sz el t g fm hm so si sh ce ca td wa kp la bf oo bo pw ow tr)[33]? = some (.inl ls) := rfl
theorem w34 : (ww im lf s d k ls rf rz ra rn rq lt m1 m2 m3 m4 bd fc hd sz el t g fm hm so si sh ce ca td wa kp la bf oo bo pw ow tr)[34]? = some (.inr (.inr (.inr (2, [.ref 35, .int rf, .ref 45, .int rz, .int ra, .int rn])))) := rfl
theorem w35 : (ww im lf s d k ls rf rz ra rn rq lt m1 m2 m3 m4 bd fc hd sz el t g fm hm so si sh ce ca td wa kp la bf oo bo pw ow tr)[35]? = some (.inr (.inr (.inr (4, [.ref 36, .ref 37, .ref 38, .ref 39, .ref 40, .ref 41, .ref 42, .ref 43, .ref 44, .int (nI (qN rq)), .int (nI (qM rq)), .int (qR rq), .int (qY rq), .int (qD rq), .int (qS rq)])))) := rfl
theorem w36 : (ww im lf s d k ls rf rz ra rn rq lt m1 m2 m3 m4 bd fc hd sz el t g fm hm so si sh ce ca td wa kp la bf oo bo pw ow tr)[36]? = some (.inl ((qK rq).map nI)) := rfl
theorem w37 : (ww im lf s d k ls rf rz ra rn rq lt m1 m2 m3 m4 bd fc hd sz el t g fm hm so si sh ce ca td wa kp la bf oo bo pw ow tr)[37]? = some (.inl ((qA rq).map nI)) := rfl
theorem w38 : (ww im lf s d k ls rf rz ra rn rq lt m1 m2 m3 m4 bd fc hd sz el t g fm hm so si sh ce ca td wa kp la bf oo bo pw ow tr)[38]? = some (.inl ((qB rq).map nI)) := rfl
theorem w39 : (ww im lf s d k ls rf rz ra rn rq lt m1 m2 m3 m4 bd fc hd sz el t g fm hm so si sh ce ca td wa kp la bf oo bo pw ow tr)[39]? = some (.inl ((qP rq).map nI)) := rfl
theorem w40 : (ww im lf s d k ls rf rz ra rn rq lt m1 m2 m3 m4 bd fc hd sz el t g fm hm so si sh ce ca td wa kp la bf oo bo pw ow tr)[40]? = some (.inl ((qU rq).map nI)) := rfl
theorem w41 : (ww im lf s d k ls rf rz ra rn rq lt m1 m2 m3 m4 bd fc hd sz el t g fm hm so si sh ce ca td wa kp la bf oo bo pw ow tr)[41]? = some (.inl ((qL rq).map nI)) := rfl
theorem w42 : (ww im lf s d k ls rf rz ra rn rq lt m1 m2 m3 m4 bd fc hd sz el t g fm hm so si sh ce ca td wa kp la bf oo bo pw ow tr)[42]? = some (.inl ((qW rq).map nI)) := rfl
theorem w43 : (ww im lf s d k ls rf rz ra rn rq lt m1 m2 m3 m4 bd fc hd sz el t g fm hm so si sh ce ca td wa kp la bf oo bo pw ow tr)[43]? = some (.inl (qG rq)) := rfl
theorem w44 : (ww im lf s d k ls rf rz ra rn rq lt m1 m2 m3 m4 bd fc hd sz el t g fm hm so si sh ce ca td wa kp la bf oo bo pw ow tr)[44]? = some (.inl ((qC rq).map nI)) := rfl
theorem w45 : (ww im lf s d k ls rf rz ra rn rq lt m1 m2 m3 m4 bd fc hd sz el t g fm hm so si sh ce ca td wa kp la bf oo bo pw ow tr)[45]? = some (.inl lt) := rfl
theorem w46 : (ww im lf s d k ls rf rz ra rn rq lt m1 m2 m3 m4 bd fc hd sz el t g fm hm so si sh ce ca td wa kp la bf oo bo pw ow tr)[46]? = some (.inr (.inr (.inr (1, [.ref 47, .int m1, .int m2, .int m3, .int m4])))) := rfl
theorem w47 : (ww im lf s d k ls rf rz ra rn rq lt m1 m2 m3 m4 bd fc hd sz el t g fm hm so si sh ce ca td wa kp la bf oo bo pw ow tr)[47]? = some (.inl bd) := rfl
theorem w48 : (ww im lf s d k ls rf rz ra rn rq lt m1 m2 m3 m4 bd fc hd sz el t g fm hm so si sh ce ca td wa kp la bf oo bo pw ow tr)[48]? = some (.inl fc) := rfl
theorem w65 : (ww im lf s d k ls rf rz ra rn rq lt m1 m2 m3 m4 bd fc hd sz el t g fm hm so si sh ce ca td wa kp la bf oo bo pw ow tr)[65]? = some (.inr (.inr (.inr (6, mOb t g)))) := rfl
theorem w66 : (ww im lf s d k ls rf rz ra rn rq lt m1 m2 m3 m4 bd fc hd sz el t g fm hm so si sh ce ca td wa kp la bf oo bo pw ow tr)[66]? = some (.inl fm) := rfl
theorem w67 : (ww im lf s d k ls rf rz ra rn rq lt m1 m2 m3 m4 bd fc hd sz el t g fm hm so si sh ce ca td wa kp la bf oo bo pw ow tr)[67]? = some (.inl ((qK t).map nI)) := rfl
theorem w68 : (ww im lf s d k ls rf rz ra rn rq lt m1 m2 m3 m4 bd fc hd sz el t g fm hm so si sh ce ca td wa kp la bf oo bo pw ow tr)[68]? = some (.inl ((qA t).map nI)) := rfl
theorem w69 : (ww im lf s d k ls rf rz ra rn rq lt m1 m2 m3 m4 bd fc hd sz el t g fm hm so si sh ce ca td wa kp la bf oo bo pw ow tr)[69]? = some (.inl ((qB t).map nI)) := rfl
theorem w70 : (ww im lf s d k ls rf rz ra rn rq lt m1 m2 m3 m4 bd fc hd sz el t g fm hm so si sh ce ca td wa kp la bf oo bo pw ow tr)[70]? = some (.inl ((qP t).map nI)) := rfl
theorem w71 : (ww im lf s d k ls rf rz ra rn rq lt m1 m2 m3 m4 bd fc hd sz el t g fm hm so si sh ce ca td wa kp la bf oo bo pw ow tr)[71]? = some (.inl ((qU t).map nI)) := rfl
theorem w72 : (ww im lf s d k ls rf rz ra rn rq lt m1 m2 m3 m4 bd fc hd sz el t g fm hm so si sh ce ca td wa kp la bf oo bo pw ow tr)[72]? = some (.inl ((qL t).map nI)) := rfl
theorem w73 : (ww im lf s d k ls rf rz ra rn rq lt m1 m2 m3 m4 bd fc hd sz el t g fm hm so si sh ce ca td wa kp la bf oo bo pw ow tr)[73]? = some (.inl ((qW t).map nI)) := rfl
theorem w74 : (ww im lf s d k ls rf rz ra rn rq lt m1 m2 m3 m4 bd fc hd sz el t g fm hm so si sh ce ca td wa kp la bf oo bo pw ow tr)[74]? = some (.inl (qG t)) := rfl
theorem w75 : (ww im lf s d k ls rf rz ra rn rq lt m1 m2 m3 m4 bd fc hd sz el t g fm hm so si sh ce ca td wa kp la bf oo bo pw ow tr)[75]? = some (.inl ((qC t).map nI)) := rfl
theorem w76 : (ww im lf s d k ls rf rz ra rn rq lt m1 m2 m3 m4 bd fc hd sz el t g fm hm so si sh ce ca td wa kp la bf oo bo pw ow tr)[76]? = some (.inl (hm.map nI)) := rfl
theorem w77 : (ww im lf s d k ls rf rz ra rn rq lt m1 m2 m3 m4 bd fc hd sz el t g fm hm so si sh ce ca td wa kp la bf oo bo pw ow tr)[77]? = some (.inl (so.map nI)) := rfl
theorem w78 : (ww im lf s d k ls rf rz ra rn rq lt m1 m2 m3 m4 bd fc hd sz el t g fm hm so si sh ce ca td wa kp la bf oo bo pw ow tr)[78]? = some (.inl (si.map nI)) := rfl
theorem w79 : (ww im lf s d k ls rf rz ra rn rq lt m1 m2 m3 m4 bd fc hd sz el t g fm hm so si sh ce ca td wa kp la bf oo bo pw ow tr)[79]? = some (.inl sh) := rfl
theorem w80 : (ww im lf s d k ls rf rz ra rn rq lt m1 m2 m3 m4 bd fc hd sz el t g fm hm so si sh ce ca td wa kp la bf oo bo pw ow tr)[80]? = some (.inr (.inl ce)) := rfl
theorem w81 : (ww im lf s d k ls rf rz ra rn rq lt m1 m2 m3 m4 bd fc hd sz el t g fm hm so si sh ce ca td wa kp la bf oo bo pw ow tr)[81]? = some (.inr (.inl ca)) := rfl
theorem w82 : (ww im lf s d k ls rf rz ra rn rq lt m1 m2 m3 m4 bd fc hd sz el t g fm hm so si sh ce ca td wa kp la bf oo bo pw ow tr)[82]? = some (.inl (([112, 105, 101, 99, 101, 32, 0, 112, 101, 114, 115, 111, 110, 32, 0, 99, 111, 115, 116, 32, 0, 104, 97, 115, 32, 0, 98, 97, 99, 107, 32, 0, 103, 114, 101, 101, 100, 121, 0, 98, 101, 115, 116, 0] : List Nat).map nI)) := rfl
theorem w83 : (ww im lf s d k ls rf rz ra rn rq lt m1 m2 m3 m4 bd fc hd sz el t g fm hm so si sh ce ca td wa kp la bf oo bo pw ow tr)[83]? = some (.inl (([3, 3, 2, 2, 1, 0, 0] : List Nat).map nI)) := rfl
theorem w84 : (ww im lf s d k ls rf rz ra rn rq lt m1 m2 m3 m4 bd fc hd sz el t g fm hm so si sh ce ca td wa kp la bf oo bo pw ow tr)[84]? = some (.inl (([6, 9, 50, 99, 9, 7, 7, 60] : List Nat).map nI)) := rfl
theorem w85 : (ww im lf s d k ls rf rz ra rn rq lt m1 m2 m3 m4 bd fc hd sz el t g fm hm so si sh ce ca td wa kp la bf oo bo pw ow tr)[85]? = some (.inl td) := rfl
theorem w86 : (ww im lf s d k ls rf rz ra rn rq lt m1 m2 m3 m4 bd fc hd sz el t g fm hm so si sh ce ca td wa kp la bf oo bo pw ow tr)[86]? = some (.inl wa) := rfl
theorem w87 : (ww im lf s d k ls rf rz ra rn rq lt m1 m2 m3 m4 bd fc hd sz el t g fm hm so si sh ce ca td wa kp la bf oo bo pw ow tr)[87]? = some (.inl kp) := rfl
theorem w88 : (ww im lf s d k ls rf rz ra rn rq lt m1 m2 m3 m4 bd fc hd sz el t g fm hm so si sh ce ca td wa kp la bf oo bo pw ow tr)[88]? = some (.inl la) := rfl
theorem w89 : (ww im lf s d k ls rf rz ra rn rq lt m1 m2 m3 m4 bd fc hd sz el t g fm hm so si sh ce ca td wa kp la bf oo bo pw ow tr)[89]? = some (.inl bf) := rfl
theorem w90 : (ww im lf s d k ls rf rz ra rn rq lt m1 m2 m3 m4 bd fc hd sz el t g fm hm so si sh ce ca td wa kp la bf oo bo pw ow tr)[90]? = some (.inl oo) := rfl
theorem w91 : (ww im lf s d k ls rf rz ra rn rq lt m1 m2 m3 m4 bd fc hd sz el t g fm hm so si sh ce ca td wa kp la bf oo bo pw ow tr)[91]? = some (.inl bo) := rfl
theorem w92 : (ww im lf s d k ls rf rz ra rn rq lt m1 m2 m3 m4 bd fc hd sz el t g fm hm so si sh ce ca td wa kp la bf oo bo pw ow tr)[92]? = some (.inl pw) := rfl
theorem w93 : (ww im lf s d k ls rf rz ra rn rq lt m1 m2 m3 m4 bd fc hd sz el t g fm hm so si sh ce ca td wa kp la bf oo bo pw ow tr)[93]? = some (.inl ow) := rfl
theorem w94 : (ww im lf s d k ls rf rz ra rn rq lt m1 m2 m3 m4 bd fc hd sz el t g fm hm so si sh ce ca td wa kp la bf oo bo pw ow tr)[94]? = some (.inl tr) := rfl
theorem w_sh {j : Nat} (hj : j < 8) : (ww im lf s d k ls rf rz ra rn rq lt m1 m2 m3 m4 bd fc hd sz el t g fm hm so si sh ce ca td wa kp la bf oo bo pw ow tr)[49 + 2 * j]? = some (.inr (.inr (.inr (3, [.ref (50 + 2 * j), .int (hd j), .int (sz j)])))) := by
  match j, hj with
  | 0, _ | 1, _ | 2, _ | 3, _ | 4, _ | 5, _ | 6, _ | 7, _ => rfl
  | j + 8, h => omega
theorem w_el {j : Nat} (hj : j < 8) : (ww im lf s d k ls rf rz ra rn rq lt m1 m2 m3 m4 bd fc hd sz el t g fm hm so si sh ce ca td wa kp la bf oo bo pw ow tr)[50 + 2 * j]? = some (.inr (.inl (el j))) := by
  match j, hj with
  | 0, _ | 1, _ | 2, _ | 3, _ | 4, _ | 5, _ | 6, _ | 7, _ => rfl
  | j + 8, h => omega
theorem w_shs {j : Nat} (hj : j < 8) : ([some 49, some 51, some 53, some 55, some 57, some 59, some 61, some 63] : List (Option Nat))[j]? = some (some (49 + 2 * j)) := by
  match j, hj with
  | 0, _ | 1, _ | 2, _ | 3, _ | 4, _ | 5, _ | 6, _ | 7, _ => rfl
  | j + 8, h => omega
theorem w_q1 : qAt (ww im lf s d k ls rf rz ra rn rq lt m1 m2 m3 m4 bd fc hd sz el t g fm hm so si sh ce ca td wa kp la bf oo bo pw ow tr) 1 s := ⟨rfl, rfl, rfl, rfl, rfl, rfl, rfl, rfl, rfl, rfl⟩
theorem w_q11 : qAt (ww im lf s d k ls rf rz ra rn rq lt m1 m2 m3 m4 bd fc hd sz el t g fm hm so si sh ce ca td wa kp la bf oo bo pw ow tr) 11 d := ⟨rfl, rfl, rfl, rfl, rfl, rfl, rfl, rfl, rfl, rfl⟩
theorem w_q21 : qAt (ww im lf s d k ls rf rz ra rn rq lt m1 m2 m3 m4 bd fc hd sz el t g fm hm so si sh ce ca td wa kp la bf oo bo pw ow tr) 21 k := ⟨rfl, rfl, rfl, rfl, rfl, rfl, rfl, rfl, rfl, rfl⟩
theorem w_q35 : qAt (ww im lf s d k ls rf rz ra rn rq lt m1 m2 m3 m4 bd fc hd sz el t g fm hm so si sh ce ca td wa kp la bf oo bo pw ow tr) 35 rq := ⟨rfl, rfl, rfl, rfl, rfl, rfl, rfl, rfl, rfl, rfl⟩
theorem w_m : mAt (ww im lf s d k ls rf rz ra rn rq lt m1 m2 m3 m4 bd fc hd sz el t g fm hm so si sh ce ca td wa kp la bf oo bo pw ow tr) t g := ⟨rfl, rfl, rfl, rfl, rfl, rfl, rfl, rfl, rfl, rfl⟩
end WW
/-- a row of functions' values, one changed -/
def fUp {α : Type} (f : Nat → α) (j : Nat) (v : α) : Nat → α := fun i => if i = j then v else f i
theorem fUp_eq {α : Type} {f : Nat → α} {j : Nat} {v : α} : fUp f j v j = v := if_pos rfl
theorem fUp_ne {α : Type} {f : Nat → α} {j i : Nat} {v : α} (h : ¬ i = j) : fUp f j v i = f i := if_neg h
theorem fUp_self {α : Type} (f : Nat → α) (j : Nat) : fUp f j (f j) = f := by
  funext i
  unfold fUp
  split
  · rename_i h
    rw [h]
  · rfl
set_option maxHeartbeats 2000000 in
theorem w_shput {im : Int32} {lf : Int32} {s : ab_q} {d : ab_q} {k : ab_q} {ls : List Int32} {rf : Int32} {rz : Int32} {ra : Int32} {rn : Int32} {rq : ab_q} {lt : List Int32} {m1 : Int32} {m2 : Int32} {m3 : Int32} {m4 : Int32} {bd : List Int32} {fc : List Int32} {hd : Nat → Int32} {sz : Nat → Int32} {el : Nat → List Int64} {t : ab_q} {g : Nat → Int32} {fm : List Int32} {hm : List Nat} {so : List Nat} {si : List Nat} {sh : List Int32} {ce : List Int64} {ca : List Int64} {td : List Int32} {wa : List Int32} {kp : List Int32} {la : List Int32} {bf : List Int32} {oo : List Int32} {bo : List Int32} {pw : List Int32} {ow : List Int32} {tr : List Int32} {v w : Int32} {j : Nat} (hj : j < 8) : (ww im lf s d k ls rf rz ra rn rq lt m1 m2 m3 m4 bd fc hd sz el t g fm hm so si sh ce ca td wa kp la bf oo bo pw ow tr).set (49 + 2 * j) (.inr (.inr (.inr (3, [.ref (50 + 2 * j), .int v, .int w])))) = ww im lf s d k ls rf rz ra rn rq lt m1 m2 m3 m4 bd fc (fUp hd j v) (fUp sz j w) el t g fm hm so si sh ce ca td wa kp la bf oo bo pw ow tr := by
  match j, hj with
  | 0, _ => rfl
  | 1, _ => rfl
  | 2, _ => rfl
  | 3, _ => rfl
  | 4, _ => rfl
  | 5, _ => rfl
  | 6, _ => rfl
  | 7, _ => rfl
  | j + 8, h => omega
theorem w_elput {im : Int32} {lf : Int32} {s : ab_q} {d : ab_q} {k : ab_q} {ls : List Int32} {rf : Int32} {rz : Int32} {ra : Int32} {rn : Int32} {rq : ab_q} {lt : List Int32} {m1 : Int32} {m2 : Int32} {m3 : Int32} {m4 : Int32} {bd : List Int32} {fc : List Int32} {hd : Nat → Int32} {sz : Nat → Int32} {el : Nat → List Int64} {t : ab_q} {g : Nat → Int32} {fm : List Int32} {hm : List Nat} {so : List Nat} {si : List Nat} {sh : List Int32} {ce : List Int64} {ca : List Int64} {td : List Int32} {wa : List Int32} {kp : List Int32} {la : List Int32} {bf : List Int32} {oo : List Int32} {bo : List Int32} {pw : List Int32} {ow : List Int32} {tr : List Int32} {l : List Int64} {j : Nat} (hj : j < 8) : (ww im lf s d k ls rf rz ra rn rq lt m1 m2 m3 m4 bd fc hd sz el t g fm hm so si sh ce ca td wa kp la bf oo bo pw ow tr).set (50 + 2 * j) (.inr (.inl l)) = ww im lf s d k ls rf rz ra rn rq lt m1 m2 m3 m4 bd fc hd sz (fUp el j l) t g fm hm so si sh ce ca td wa kp la bf oo bo pw ow tr := by
  match j, hj with
  | 0, _ => rfl
  | 1, _ => rfl
  | 2, _ => rfl
  | 3, _ => rfl
  | 4, _ => rfl
  | 5, _ => rfl
  | 6, _ => rfl
  | 7, _ => rfl
  | j + 8, h => omega
theorem ab_mid {F S S2 B cs2 : List ab_C} (hl : S2.length = S.length) (u : ab_Up F.length (F.length + S.length) (F ++ (S ++ B)) cs2) (h : ∀ j, j < S2.length → cs2[F.length + j]? = S2[j]?) : cs2 = F ++ (S2 ++ B) := by
  obtain ⟨u1, u2, u3⟩ := u
  apply List.ext_getElem?
  intro i
  by_cases h1 : i < F.length
  · rw [u3 i (Or.inl h1), List.getElem?_append_left h1, List.getElem?_append_left h1]
  · by_cases h2 : i < F.length + S.length
    · obtain ⟨j, rfl⟩ : ∃ j, i = F.length + j := ⟨i - F.length, by omega⟩
      rw [h j (by omega), List.getElem?_append_right (by omega), Nat.add_sub_cancel_left, List.getElem?_append_left (by omega)]
    · rw [u3 i (Or.inr (by omega)), List.getElem?_append_right (by omega), List.getElem?_append_right (by omega), List.getElem?_append_right (by omega), List.getElem?_append_right (by omega), hl]
def sqc (b : Nat) (s : ab_q) : List ab_C := [.inr (.inr (.inr (4, [.ref (b + 1), .ref (b + 2), .ref (b + 3), .ref (b + 4), .ref (b + 5), .ref (b + 6), .ref (b + 7), .ref (b + 8), .ref (b + 9), .int (nI (qN s)), .int (nI (qM s)), .int (qR s), .int (qY s), .int (qD s), .int (qS s)]))), .inl ((qK s).map nI), .inl ((qA s).map nI), .inl ((qB s).map nI), .inl ((qP s).map nI), .inl ((qU s).map nI), .inl ((qL s).map nI), .inl ((qW s).map nI), .inl (qG s), .inl ((qC s).map nI)]
theorem sqc_at {cs : List ab_C} {b : Nat} {s : ab_q} (h : qAt cs b s) : ∀ j, j < (sqc b s).length → cs[b + j]? = (sqc b s)[j]? := by
  obtain ⟨h0, h1, h2, h3, h4, h5, h6, h7, h8, h9⟩ := h
  intro j hj
  match j, hj with
  | 0, _ => exact h0
  | 1, _ => exact h1
  | 2, _ => exact h2
  | 3, _ => exact h3
  | 4, _ => exact h4
  | 5, _ => exact h5
  | 6, _ => exact h6
  | 7, _ => exact h7
  | 8, _ => exact h8
  | 9, _ => exact h9
  | j + 10, h => exact absurd h (Nat.not_lt.mpr (Nat.le_add_left 10 j))
theorem ab_sq {F B cs cs2 : List ab_C} {b : Nat} {s s2 : ab_q} (hF : F.length = b) (hc : cs = F ++ (sqc b s ++ B)) (h : qAt cs2 b s2) (u : ab_Up b (b + 10) cs cs2) : cs2 = F ++ (sqc b s2 ++ B) := by
  subst hF
  subst hc
  exact ab_mid (S := sqc F.length s) rfl u (sqc_at h)
theorem w_eq1 {im : Int32} {lf : Int32} {s : ab_q} {d : ab_q} {k : ab_q} {ls : List Int32} {rf : Int32} {rz : Int32} {ra : Int32} {rn : Int32} {rq : ab_q} {lt : List Int32} {m1 : Int32} {m2 : Int32} {m3 : Int32} {m4 : Int32} {bd : List Int32} {fc : List Int32} {hd : Nat → Int32} {sz : Nat → Int32} {el : Nat → List Int64} {t : ab_q} {g : Nat → Int32} {fm : List Int32} {hm : List Nat} {so : List Nat} {si : List Nat} {sh : List Int32} {ce : List Int64} {ca : List Int64} {td : List Int32} {wa : List Int32} {kp : List Int32} {la : List Int32} {bf : List Int32} {oo : List Int32} {bo : List Int32} {pw : List Int32} {ow : List Int32} {tr : List Int32} {cs2 : List ab_C} {s2 : ab_q} (h : qAt cs2 1 s2) (u : ab_Up 1 (1 + 10) (ww im lf s d k ls rf rz ra rn rq lt m1 m2 m3 m4 bd fc hd sz el t g fm hm so si sh ce ca td wa kp la bf oo bo pw ow tr) cs2) : cs2 = ww im lf s2 d k ls rf rz ra rn rq lt m1 m2 m3 m4 bd fc hd sz el t g fm hm so si sh ce ca td wa kp la bf oo bo pw ow tr := ab_sq (F := (ww im lf s d k ls rf rz ra rn rq lt m1 m2 m3 m4 bd fc hd sz el t g fm hm so si sh ce ca td wa kp la bf oo bo pw ow tr).take 1) (B := (ww im lf s d k ls rf rz ra rn rq lt m1 m2 m3 m4 bd fc hd sz el t g fm hm so si sh ce ca td wa kp la bf oo bo pw ow tr).drop 11) (s := s) rfl rfl h u
theorem w_eq11 {im : Int32} {lf : Int32} {s : ab_q} {d : ab_q} {k : ab_q} {ls : List Int32} {rf : Int32} {rz : Int32} {ra : Int32} {rn : Int32} {rq : ab_q} {lt : List Int32} {m1 : Int32} {m2 : Int32} {m3 : Int32} {m4 : Int32} {bd : List Int32} {fc : List Int32} {hd : Nat → Int32} {sz : Nat → Int32} {el : Nat → List Int64} {t : ab_q} {g : Nat → Int32} {fm : List Int32} {hm : List Nat} {so : List Nat} {si : List Nat} {sh : List Int32} {ce : List Int64} {ca : List Int64} {td : List Int32} {wa : List Int32} {kp : List Int32} {la : List Int32} {bf : List Int32} {oo : List Int32} {bo : List Int32} {pw : List Int32} {ow : List Int32} {tr : List Int32} {cs2 : List ab_C} {s2 : ab_q} (h : qAt cs2 11 s2) (u : ab_Up 11 (11 + 10) (ww im lf s d k ls rf rz ra rn rq lt m1 m2 m3 m4 bd fc hd sz el t g fm hm so si sh ce ca td wa kp la bf oo bo pw ow tr) cs2) : cs2 = ww im lf s s2 k ls rf rz ra rn rq lt m1 m2 m3 m4 bd fc hd sz el t g fm hm so si sh ce ca td wa kp la bf oo bo pw ow tr := ab_sq (F := (ww im lf s d k ls rf rz ra rn rq lt m1 m2 m3 m4 bd fc hd sz el t g fm hm so si sh ce ca td wa kp la bf oo bo pw ow tr).take 11) (B := (ww im lf s d k ls rf rz ra rn rq lt m1 m2 m3 m4 bd fc hd sz el t g fm hm so si sh ce ca td wa kp la bf oo bo pw ow tr).drop 21) (s := d) rfl rfl h u
theorem w_eq21 {im : Int32} {lf : Int32} {s : ab_q} {d : ab_q} {k : ab_q} {ls : List Int32} {rf : Int32} {rz : Int32} {ra : Int32} {rn : Int32} {rq : ab_q} {lt : List Int32} {m1 : Int32} {m2 : Int32} {m3 : Int32} {m4 : Int32} {bd : List Int32} {fc : List Int32} {hd : Nat → Int32} {sz : Nat → Int32} {el : Nat → List Int64} {t : ab_q} {g : Nat → Int32} {fm : List Int32} {hm : List Nat} {so : List Nat} {si : List Nat} {sh : List Int32} {ce : List Int64} {ca : List Int64} {td : List Int32} {wa : List Int32} {kp : List Int32} {la : List Int32} {bf : List Int32} {oo : List Int32} {bo : List Int32} {pw : List Int32} {ow : List Int32} {tr : List Int32} {cs2 : List ab_C} {s2 : ab_q} (h : qAt cs2 21 s2) (u : ab_Up 21 (21 + 10) (ww im lf s d k ls rf rz ra rn rq lt m1 m2 m3 m4 bd fc hd sz el t g fm hm so si sh ce ca td wa kp la bf oo bo pw ow tr) cs2) : cs2 = ww im lf s d s2 ls rf rz ra rn rq lt m1 m2 m3 m4 bd fc hd sz el t g fm hm so si sh ce ca td wa kp la bf oo bo pw ow tr := ab_sq (F := (ww im lf s d k ls rf rz ra rn rq lt m1 m2 m3 m4 bd fc hd sz el t g fm hm so si sh ce ca td wa kp la bf oo bo pw ow tr).take 21) (B := (ww im lf s d k ls rf rz ra rn rq lt m1 m2 m3 m4 bd fc hd sz el t g fm hm so si sh ce ca td wa kp la bf oo bo pw ow tr).drop 31) (s := k) rfl rfl h u
theorem w_eq35 {im : Int32} {lf : Int32} {s : ab_q} {d : ab_q} {k : ab_q} {ls : List Int32} {rf : Int32} {rz : Int32} {ra : Int32} {rn : Int32} {rq : ab_q} {lt : List Int32} {m1 : Int32} {m2 : Int32} {m3 : Int32} {m4 : Int32} {bd : List Int32} {fc : List Int32} {hd : Nat → Int32} {sz : Nat → Int32} {el : Nat → List Int64} {t : ab_q} {g : Nat → Int32} {fm : List Int32} {hm : List Nat} {so : List Nat} {si : List Nat} {sh : List Int32} {ce : List Int64} {ca : List Int64} {td : List Int32} {wa : List Int32} {kp : List Int32} {la : List Int32} {bf : List Int32} {oo : List Int32} {bo : List Int32} {pw : List Int32} {ow : List Int32} {tr : List Int32} {cs2 : List ab_C} {s2 : ab_q} (h : qAt cs2 35 s2) (u : ab_Up 35 (35 + 10) (ww im lf s d k ls rf rz ra rn rq lt m1 m2 m3 m4 bd fc hd sz el t g fm hm so si sh ce ca td wa kp la bf oo bo pw ow tr) cs2) : cs2 = ww im lf s d k ls rf rz ra rn s2 lt m1 m2 m3 m4 bd fc hd sz el t g fm hm so si sh ce ca td wa kp la bf oo bo pw ow tr := ab_sq (F := (ww im lf s d k ls rf rz ra rn rq lt m1 m2 m3 m4 bd fc hd sz el t g fm hm so si sh ce ca td wa kp la bf oo bo pw ow tr).take 35) (B := (ww im lf s d k ls rf rz ra rn rq lt m1 m2 m3 m4 bd fc hd sz el t g fm hm so si sh ce ca td wa kp la bf oo bo pw ow tr).drop 45) (s := rq) rfl rfl h u
