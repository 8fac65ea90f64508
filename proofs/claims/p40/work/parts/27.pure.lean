/-- the parser's cells -/
def wPa (Z : GZ) (p kk b : Nat → Nat) (ti si : Int32) (nk : Nat) (br : Bool) (fl fa y0 y1 y2 y3 y4 y5 : Int32) : va_W := [(p 0, .inr (2, [.ref (kk 0), .ref (b 0), .ref (p 1), .int ti, .int si, .ref (zad Z nk), .int (b2i br), .int fl, .int fa])), (p 1, .inr (1, [.int y0, .int y1, .int y2, .int y3, .int y4, .int y5]))]
/-- the token that stands now: BAD when broken -/
def nw (tk : Nat → Nat) (i : Nat) (b : Bool) : Nat := if b = true then 42 else tk i
theorem nw_lt {tk : Nat → Nat} (h : ∀ i, tk i < 43) (i : Nat) (b : Bool) : nw tk i b < 43 := by
  unfold nw; split
  · decide
  · exact h i
theorem nw_t {tk : Nat → Nat} {i : Nat} : nw tk i true = 42 := rfl
theorem nw_f {tk : Nat → Nat} {i : Nat} : nw tk i false = tk i := rfl
theorem rmK_le {a b n : Nat} (h : a < b) (hn : n ≤ 21) : (rmK a).frames + 1 ≤ (rmK b).frames ∧ 8 + (n + 11) + (rmK a).locals ≤ (rmK b).locals := by
  simp only [rmK]
  omega
/-- token, broken, flaw, where; steps -/
abbrev PS : Type := Nat × Bool × Int32 × Int32 × Nat × (Nat → Int32) × (Nat → Int32) × (Nat → Int32)
def tkOk (tk : Nat → Nat) (i : Nat) (b : Bool) (k : Nat) : Bool := nw tk i b == k
def takeC (tk : Nat → Nat) (sf : Nat → Int32) (k : Nat) : PS → PS
  | (i, b, e, a, r) => if nw tk i b = k then (i + 1, false, e, a, r) else (i, true, if b = true then e else 1, if b = true then a else sf i, r)
def valT (tk : Nat → Nat) (vf : Nat → Int64) (k : Nat) : PS → Int64
  | (i, b, _) => if nw tk i b = k then vf i else 0
def failC (sf : Nat → Int32) : PS → PS
  | (i, b, e, a, r) => (i, true, if b = true then e else 1, if b = true then a else sf i, r)
def tellC (er wh : Int32) : PS → PS
  | (i, b, e, a, r) => (i, b, if e = 0 then er else e, if e = 0 then wh else a, r)
def stepC (x y z : Int32) : PS → PS
  | (i, b, e, a, s, o, g, j) => (i, b, e, a, inc s 400, updC o s 400 x, updC g s 400 y, updC j s 400 z)
def nowC (tk : Nat → Nat) : PS → Nat
  | (i, b, _) => nw tk i b
def brkC : PS → Bool
  | (_, b, _) => b
def hseC (tk : Nat → Nat) (vf nm : Nat → Int64) (m : Nat) (q : PS) : Int32 := hnF nm (valT tk vf 39 q) m
/-- a name that must be told -/
def knwC (tk : Nat → Nat) (sf : Nat → Int32) (vf nm : Nat → Int64) (m : Nat) (q : PS) : PS := if hseC tk vf nm m q = -1 then tellC 3 (sf q.1) (takeC tk sf 39 q) else takeC tk sf 39 q
def deepC (tk : Nat → Nat) (sf : Nat → Int32) (k d : Nat) (q : PS) : PS := if d < 8 then takeC tk sf k q else failC sf q
def cmpK (k : Nat) : Int32 := if k = 34 then 16 else if k = 35 then 17 else if k = 36 then 18 else if k = 37 then 19 else if k = 38 then 20 else -1
