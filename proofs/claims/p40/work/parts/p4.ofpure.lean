/-- a tree's cell is in the pool -/
theorem InT.at {n : Nat} {L : List TC} {f a : Nat} {q : TN} (h : InT n L f a q) : ∃ (i : Nat) (e : Nat × Nat × Nat × Option Nat × Option Nat), L[i]? = some (a, e) := by
  cases f with
  | zero => exact absurd h (by simp [InT])
  | succ f =>
    obtain ⟨oa, ob, h1, -⟩ := h
    obtain ⟨i, hi⟩ := List.mem_iff_getElem?.mp h1
    exact ⟨i, _, hi⟩
