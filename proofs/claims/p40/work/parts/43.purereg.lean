/-- the registry's own cell -/
def wRg (Z : GZ) (x t b p h r a e : Nat → Nat) (er : Int32) : va_W := [(x 0, .inr (7, [.ref (t 0), .ref (b 0), .ref (p 0), .ref (h 0), .ref (r 0), .ref (a 0), .ref (e 0), .int er]))]
