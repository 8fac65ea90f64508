def bsM (v : Int32 → Bool) : Nat → Int32
  | 0 => 0
  | j + 1 => bsM v j ||| (b2i (v (nI (6 + j))) <<< (nI (6 + j) &&& 31))
theorem bsM_s {v : Int32 → Bool} {k : Nat} (hk : 6 ≤ k) : bsM v (k + 1 - 6) = bsM v (k - 6) ||| (b2i (v (nI k)) <<< (nI k &&& 31)) := by
  rw [show k + 1 - 6 = (k - 6) + 1 by omega, bsM, show 6 + (k - 6) = k by omega]
/-- the hours at which b shades a -/
def lkM (P H F T : Nat → Int32) (a b : Nat) : Int32 := bsM (fun hr => snM P H F T b a hr) 13
def LkOk (N : Nat) (P H F T S D : Nat → Int32) : Prop := (∀ a b, a < N → b < N → S (12 * a + b) = lkM P H F T a b) ∧ ∀ a, a < N → D a = orN (fun b => lkM P H F T a b) N
