/-- the worst: -1 of none, then the first of the greatest -/
def wrM (f : Nat → Int32) : Nat → Int32
  | 0 => -1
  | k + 1 => nI (amx f (k + 1))
def inM (D : Nat → Int32) (h : Int32) (N : Nat) : Int32 := sumN (fun a => (D a >>> (h &&& 31)) &&& 1) N
