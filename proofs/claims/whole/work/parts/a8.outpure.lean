theorem house_ex {N : Nat} {q : Int32} (hN : N ≤ 12) : inX q 0 (nI N - 1) = true ↔ ∃ i, i < N ∧ q = nI i := by
  constructor
  · intro h
    simp only [inX, Bool.and_eq_true, Bool.not_eq_true', decide_eq_false_iff_not] at h
    have h1 := Int32.le_iff_toInt_le.mp (Int32.not_lt.mp h.1)
    have h2 := Int32.le_iff_toInt_le.mp (Int32.not_lt.mp h.2)
    have e0 : (0 : Int32).toInt = 0 := rfl
    rcases Nat.eq_zero_or_pos N with z | z
    · exfalso
      subst z
      have e1 : (nI 0 - 1 : Int32).toInt = -1 := by decide
      omega
    · rw [nI_prd z, nI_toInt (by omega)] at h2
      refine ⟨q.toInt.toNat, by omega, Int32.toInt_inj.mp ?_⟩
      rw [nI_toInt (by omega)]; omega
  · rintro ⟨i, hi, rfl⟩
    have a1 : ¬ nI i < 0 := nI_pos (n := i) (by omega)
    have a2 : ¬ nI N - 1 < nI i := by rw [nI_prd (by omega)]; exact nI_nlt (a := N - 1) (b := i) (by omega) (by omega)
    simp [inX, a1, a2]
theorem hour_ex {q : Int32} : inX q 0 23 = true ↔ ¬ (q < 0 ∨ 24 ≤ q) := by
  have e : (24 ≤ q) ↔ 23 < q := by
    rw [Int32.le_iff_toInt_le, Int32.lt_iff_toInt_lt]
    have e1 : (24 : Int32).toInt = 24 := rfl
    have e2 : (23 : Int32).toInt = 23 := rfl
    omega
  rw [e]
  by_cases a : q < 0 <;> by_cases b : 23 < q <;> simp [inX, a, b]

