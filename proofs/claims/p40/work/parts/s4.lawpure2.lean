theorem mx_nI {A B : Nat} (hA : A < 1000) (hB : B < 1000) : (if nI A < nI B then nI B else nI A) = nI (if A < B then B else A) := by
  by_cases c : A < B
  · rw [if_pos c, if_pos (nI_lt c (by omega))]
  · rw [if_neg c, if_neg (nI_nlt (by omega) (by omega))]
theorem mxN_ge {g : Nat → Nat} : ∀ {k i : Nat}, i < k → g i ≤ mxN g k
  | 0, _, h => absurd h (Nat.not_lt_zero _)
  | k + 1, i, h => by
    rw [mxN]
    by_cases e : i = k
    · subst e
      split <;> omega
    · have := mxN_ge (g := g) (k := k) (i := i) (by omega)
      split <;> omega
theorem row_a (y : Nat → Nat → Bool) (a : Nat) : (fun i => nI (cnN (y i) a)) = fun i => if i < 0 then nI (cnN (y i) (a + 1)) else nI (cnN (y i) a) := by simp only [Nat.not_lt_zero, if_false]
theorem row_z {y : Nat → Nat → Bool} {a : Nat} : ∀ i, i < 24 → (if i < 24 then nI (cnN (y i) (a + 1)) else nI (cnN (y i) a)) = nI (cnN (y i) (a + 1)) := fun i hi => if_pos hi
