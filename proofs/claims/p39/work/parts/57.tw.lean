/-! a told number; an answer in other words -/
def tw (e : List Int64) (q : Nat) : Int32 := (e.getD q 0).toInt32
theorem Ev.vi {Z : ab_Z} {d y : Nat} {As : List Value} {cs c2 : List ab_C} {a b : Int32} (e : a = b) (h : Ev Z d y As cs (some (.int a), c2)) : Ev Z d y As cs (some (.int b), c2) := e ▸ h
