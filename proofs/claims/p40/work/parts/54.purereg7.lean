def dgA (d : Int64) (x : Int32) : Int64 := d * 31 + x.toInt64
def dg0 (N u : Nat) (dg co li : Int32) (lt : Nat) : Int64 := dgA (dgA (dgA (dgA (dgA (dgA 1013 (nI N)) (nI u)) dg) co) li) (nI lt)
def dgI (N : Nat) (S : Nat → Int32) (h : Nat) (d : Int64) : Nat → Int64
  | 0 => d
  | k + 1 => dgA (dgI N S h d k) (bitC (shF (nI N) S (nI h) (nI k)))
def dg6 (N : Nat) (P H F T D E : Nat → Int32) (h : Nat) (d : Int64) : Int64 := dgA (dgA (dgA (dgA (dgA (dgA d (stAt (nI N) (nI h) P (-1))) (stAt (nI N) (nI h) H 0)) (stAt (nI N) (nI h) F (-1))) (stAt (nI N) (nI h) T (-1))) (bitC (stAt (nI N) (nI h) D 0))) (stAt (nI N) (nI h) E 0)
def dgO (N : Nat) (P H F T S D E : Nat → Int32) (d : Int64) : Nat → Int64
  | 0 => d
  | h + 1 => dgI N S h (dg6 N P H F T D E h (dgO N P H F T S D E d h)) N
def dgR (N : Nat) (D : Nat → Int32) (d : Int64) : Nat → Int64
  | 0 => d
  | j + 1 => dgA (dgR N D d j) (nI (cntN (dkB N D (nI (6 + j))) N))
theorem dgR_s {N : Nat} {D : Nat → Int32} {d : Int64} {k : Nat} (hk : 6 ≤ k) : dgR N D d (k + 1 - 6) = dgA (dgR N D d (k - 6)) (nI (cntN (dkB N D (nI k)) N)) := by
  rw [show k + 1 - 6 = (k - 6) + 1 by omega, dgR, show 6 + (k - 6) = k by omega]
