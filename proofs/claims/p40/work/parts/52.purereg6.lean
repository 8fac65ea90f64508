theorem upd_upd {f : Nat → Int32} {i : Nat} {x y : Int32} : upd (upd f i x) i y = upd f i y := by
  funext j
  by_cases e : j = i
  · subst e; rw [upd_s, upd_s]
  · rw [upd_n e, upd_n e, upd_n e]
/-- the best of the first hours: hour, how many hours all lose -/
def frX (v : Nat → Int32) : Nat → Int32 × Int32
  | 0 => (6, 157)
  | j + 1 => if v (6 + j) < (frX v j).2 then (nI (6 + j), v (6 + j)) else frX v j
theorem frX_t {v : Nat → Int32} {k : Nat} (hk : 6 ≤ k) (h : v k < (frX v (k - 6)).2) : frX v (k + 1 - 6) = (nI k, v k) := by
  rw [show k + 1 - 6 = (k - 6) + 1 by omega, frX, show 6 + (k - 6) = k by omega, if_pos h]
theorem frX_f {v : Nat → Int32} {k : Nat} (hk : 6 ≤ k) (h : ¬ v k < (frX v (k - 6)).2) : frX v (k + 1 - 6) = frX v (k - 6) := by
  rw [show k + 1 - 6 = (k - 6) + 1 by omega, frX, show 6 + (k - 6) = k by omega, if_neg h]
/-- one house's hours, behind others -/
def iwX (v : Nat → Int32) (h : Nat) (p : Int32 × Int32) : Nat → Int32 × Int32
  | 0 => p
  | j + 1 => if v (6 + j) < (iwX v h p j).2 then (nI h, v (6 + j)) else iwX v h p j
theorem iwX_t {v : Nat → Int32} {h k : Nat} {p : Int32 × Int32} (hk : 6 ≤ k) (hl : v k < (iwX v h p (k - 6)).2) : iwX v h p (k + 1 - 6) = (nI h, v k) := by
  rw [show k + 1 - 6 = (k - 6) + 1 by omega, iwX, show 6 + (k - 6) = k by omega, if_pos hl]
theorem iwX_f {v : Nat → Int32} {h k : Nat} {p : Int32 × Int32} (hk : 6 ≤ k) (hl : ¬ v k < (iwX v h p (k - 6)).2) : iwX v h p (k + 1 - 6) = iwX v h p (k - 6) := by
  rw [show k + 1 - 6 = (k - 6) + 1 by omega, iwX, show 6 + (k - 6) = k by omega, if_neg hl]
def owX (v : Nat → Nat → Int32) (c : Nat) (p : Int32 × Int32) : Nat → Int32 × Int32
  | 0 => p
  | h + 1 => iwX (v h) h (owX v c p h) c
/-- what all lose with a curfew of n hours from an hour on -/
def fcV (N : Nat) (P H F T : Nat → Int32) (n h k : Nat) : Int32 := laG N P H (upd F h (nI k)) (upd T h (nI (k + n - 1)))
