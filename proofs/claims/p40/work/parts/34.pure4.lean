/-- what a row of lines has told: state, houses, laws -/
abbrev RS : Type := PS × Nat × (Nat → Int64) × (Nat → Int32) × (Nat → Int32) × Nat × (Nat → Int32) × (Nat → Int32) × (Nat → Int32) × (Nat → Int32) × (Nat → Int32) × (Nat → Int32)
def lineC (tk : Nat → Nat) (sf : Nat → Int32) (vf : Nat → Int64) : RS → RS
  | (q, m, nm, bP, bH, u, l0, l1, l2, l3, l4, l5) =>
    if nowC tk q = 0 then (takeC tk sf 28 (houC tk sf vf nm m bP q).1, inc m 12, updCL nm m 12 (houC tk sf vf nm m bP q).2.1, updC bP m 12 (houC tk sf vf nm m bP q).2.2.1.toInt32, updC bH m 12 (houC tk sf vf nm m bP q).2.2.2.toInt32, u, l0, l1, l2, l3, l4, l5)
    else (takeC tk sf 28 (lawC tk sf vf nm m u q).1, m, nm, bP, bH, inc u 16, updC l0 u 16 (lawC tk sf vf nm m u q).2.1, updC l1 u 16 (lawC tk sf vf nm m u q).2.2.1, updC l2 u 16 (lawC tk sf vf nm m u q).2.2.2.1, updC l3 u 16 (lawC tk sf vf nm m u q).2.2.2.2.1, updC l4 u 16 (lawC tk sf vf nm m u q).2.2.2.2.2.1, updC l5 u 16 (lawC tk sf vf nm m u q).2.2.2.2.2.2)
def readR (tk : Nat → Nat) (sf : Nat → Int32) (vf : Nat → Int64) : Nat → RS → RS
  | 0, q => q
  | f + 1, q => if nowC tk q.1 = 41 then q else if brkC q.1 = true then q else readR tk sf vf f (lineC tk sf vf q)
/-- the kinds of a tape's tokens -/
def tkT (m : Nat) (tb : Nat → Int32) (i : Nat) : Nat := tkK m tb i (stN m tb i)
theorem tkT_lt (m : Nat) (tb : Nat → Int32) (i : Nat) : tkT m tb i < 43 := tkK_lt m tb i _
theorem nI_ne1 {n : Nat} (h : n < 2147483648) : ¬ nI n = -1 := by
  intro e
  have := congrArg Int32.toInt e
  rw [nI_toInt h] at this
  exact absurd this (by simp)
theorem tkN_end {m : Nat} {tb : Nat → Int32} {c s : Nat} (hs : s ≤ 2000) (h : tkN m tb c s = -1) : tkK m tb c s = 41 ∨ tkK m tb c s = 42 := by
  unfold tkN at h
  unfold tkK
  by_cases h1 : sgN m tb s = -1
  · exact Or.inl (if_pos h1)
  rw [if_neg h1] at h ⊢
  have hs1 : s < 2000 := sg_lt hs h1
  by_cases h2 : c = 400
  · exact Or.inr (if_pos h2)
  rw [if_neg h2] at h ⊢
  by_cases h3 : isLet (sgN m tb s) = true
  · rw [if_pos h3] at h ⊢
    unfold wdN at h
    unfold wdK
    by_cases h4 : wdL m tb s ≤ 10
    · rw [if_pos h4] at h
      have h5 : wdL m tb s ≤ 2000 - s := runL_le
      exact absurd h (nI_ne1 (by omega))
    · exact Or.inr (if_neg h4)
  rw [if_neg h3] at h ⊢
  by_cases h4 : isDig (sgN m tb s) = true
  · rw [if_pos h4] at h ⊢
    unfold nmN at h
    unfold nmK
    by_cases h4 : nmL m tb s ≤ 6
    · rw [if_pos h4] at h
      have h5 : nmL m tb s ≤ 2000 - s := runL_le
      exact absurd h (nI_ne1 (by omega))
    · exact Or.inr (if_neg h4)
  rw [if_neg h4] at h ⊢
  unfold syN at h
  unfold syK
  by_cases h5 : sgN m tb (s + 1) = 61 ∧ sgN m tb s = 60
  · rw [if_pos h5] at h; exact absurd h (nI_ne1 (by omega))
  rw [if_neg h5] at h ⊢
  by_cases h6 : sgN m tb (s + 1) = 61 ∧ sgN m tb s = 62
  · rw [if_pos h6] at h; exact absurd h (nI_ne1 (by omega))
  rw [if_neg h6] at h ⊢
  by_cases h7 : symK (sgN m tb s) = 42
  · exact Or.inr h7
  · rw [if_neg h7] at h; exact absurd h (nI_ne1 (by omega))
theorem tkT_end {m : Nat} {tb : Nat → Int32} : ∀ i, i ≤ tL m tb → tkT m tb i ≠ 41 → tkT m tb i ≠ 42 → i < tL m tb := by
  intro i hi h1 h2
  rcases Nat.lt_or_ge i (tL m tb) with h | h
  · exact h
  · have e : i = tL m tb := by omega
    have e1 : tkT m tb i = tkT m tb (tL m tb) := congrArg (tkT m tb) e
    rcases tkN_end (bl_le (pN_le m tb _)) (tL_spec m tb).2.1 with h3 | h3
    · exact absurd (e1.trans h3) h1
    · exact absurd (e1.trans h3) h2
theorem inc_le12 {m : Nat} (h : m ≤ 12) : inc m 12 ≤ 12 := by unfold inc; split <;> omega
theorem inc_le16 {m : Nat} (h : m ≤ 16) : inc m 16 ≤ 16 := by unfold inc; split <;> omega
