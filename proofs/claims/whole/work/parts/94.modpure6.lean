theorem wrM_s {f : Nat → Int32} {k : Nat} (h : ¬ k = 0) : wrM f k = nI (amx f k) := by
  obtain ⟨n, rfl⟩ : ∃ n, k = n + 1 := ⟨k - 1, by omega⟩
  rfl
theorem amx_lt' {f : Nat → Int32} : ∀ {k : Nat}, 1 ≤ k → amx f k < k
  | 0, h => absurd h (by decide)
  | 1, _ => by
    rw [amx, amx]; split <;> decide
  | k + 2, _ => by
    have := amx_lt' (f := f) (k := k + 1) (by omega)
    rw [amx]; split <;> omega
def askB (x : Int32) : Bool := x == 100 || x == 11 || inX x 12 15 || x == 17 || x == 18
def hdM (x : Int32) : Int32 := if 6 < (if x < 18 then x else 18) then (if x < 18 then x else 18) else 6
/-- what a step of two sides gives -/
def rcM (c : Nat) (a b : Int32) : Int32 := match c with
  | 10 => a + b
  | 11 => a - b
  | 12 => a * b
  | 13 => if b = 0 then 0 else a / b
  | 14 => if b < a then b else a
  | 15 => if a < b then b else a
  | 16 => b2i (decide (a < b))
  | 17 => b2i (decide (b < a))
  | 18 => b2i (decide (a = b))
  | 19 => b2i (decide (a ≤ b))
  | 20 => b2i (decide (b ≤ a))
  | 21 => a &&& b
  | _ => a ||| b
/-- the most that one loses -/
def mxM (N : Nat) (P H F T : Nat → Int32) : Int32 := if N = 0 then 0 else lsM N P H F T (amx (lsM N P H F T) N)
/-- what a leaf of the class's number c gives in the model -/
def lfM (N : Nat) (dg : Int32) (P H F T : Nat → Int32) (c : Nat) (f s : Int32) : Int32 := match c with
  | 0 => f
  | 1 => dg
  | 2 => mxM N P H F T
  | 3 => lsM N P H F T f.toNatClampNeg
  | 4 => ctM N P H F T f.toNatClampNeg
  | 5 => H f.toNatClampNeg
  | 6 => b2i (decide (0 < bitC (lkM P H F T s.toNatClampNeg f.toNatClampNeg)))
  | _ => b2i (decide (0 < lsM N P H F T f.toNatClampNeg))

