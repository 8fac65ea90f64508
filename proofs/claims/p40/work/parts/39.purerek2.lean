abbrev HFT : Type := (Nat → Int32) × (Nat → Int32) × (Nat → Int32)
def cuF (H F T : Nat → Int32) (h : Nat) (fr to_ : Int32) : Bool × HFT := (!(decide (F h = fr) && decide (T h = to_)), H, upd F h fr, upd T h to_)
def hgF (H F T : Nat → Int32) (h : Nat) (x : Int32) : Bool × HFT := (!decide (H h = x), upd H h x, F, T)
/-- what a law does: whether something changed; heights, curfews -/
def carF (lf : Int32 → Int32 → Int32 → Int32) (o g j H F T : Nat → Int32) (od : Int32) (h c0 c1 c2 c3 : Nat) : Bool × HFT :=
  if c2 < c3 ∧ rkX lf o g j c2 c3 = 0 then (false, H, F, T)
  else if od = 1 then cuF H F T h (-1) (-1)
  else if od = 2 then hgF H F T h (hlF ((H h).toInt64 + (rkX lf o g j c0 c1).toInt64) 0 30)
  else if hlF (rkX lf o g j c1 c2).toInt64 6 18 < hlF (rkX lf o g j c0 c1).toInt64 6 18 then (false, H, F, T)
  else cuF H F T h (hlF (rkX lf o g j c0 c1).toInt64 6 18) (hlF (rkX lf o g j c1 c2).toInt64 6 18)
/-- laws one after another: heights, curfews, how many changed something -/
def carS (N : Nat) (dg : Int32) (P o g j l0 : Nat → Int32) (hh c0 c1 c2 c3 : Nat → Nat) (i : Nat) (q : HFT × Int32) : HFT × Int32 :=
  ((carF (lfG N dg P q.1.1 q.1.2.1 q.1.2.2) o g j q.1.1 q.1.2.1 q.1.2.2 (l0 i) (hh i) (c0 i) (c1 i) (c2 i) (c3 i)).2,
   if (carF (lfG N dg P q.1.1 q.1.2.1 q.1.2.2) o g j q.1.1 q.1.2.1 q.1.2.2 (l0 i) (hh i) (c0 i) (c1 i) (c2 i) (c3 i)).1 = true then q.2 + 1 else q.2)
def dayL (N : Nat) (dg : Int32) (P o g j l0 : Nat → Int32) (hh c0 c1 c2 c3 : Nat → Nat) : Nat → Nat → HFT × Int32 → HFT × Int32
  | _, 0, q => q
  | i, f + 1, q => dayL N dg P o g j l0 hh c0 c1 c2 c3 (i + 1) f (carS N dg P o g j l0 hh c0 c1 c2 c3 i q)
