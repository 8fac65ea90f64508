def inX (v l h : Int32) : Bool := !decide (v < l) && !decide (h < v)
/-- a wall's height at an hour -/
def tlM (H F T : Nat → Int32) (i : Nat) (hr : Int32) : Int32 := if F i = -1 then H i else if inX hr (F i) (T i) = true then 0 else H i
def spM (hr : Int32) : Int32 := if inX hr 6 18 = true then absI (hr - 12) else 0
