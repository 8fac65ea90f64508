def awM (P : Nat → Int32) (i j : Nat) (hr : Int32) : Int32 := if hr < 12 then P i - P j else P j - P i
/-- whether i shades j at an hour -/
def snM (P H F T : Nat → Int32) (i j : Nat) (hr : Int32) : Bool := if awM P i j hr ≤ 0 then false else if tlM H F T i hr * spM hr / 2 < awM P i j hr then false else decide (tlM H F T j hr < (tlM H F T i hr * spM hr - 2 * awM P i j hr) / spM hr)
theorem sn_dv {x s a : Int32} (h1 : ¬ a ≤ 0) (h2 : ¬ x * s / 2 < a) : ¬ s = 0 := by
  intro e
  subst e
  apply h2
  rw [Int32.mul_zero, show (0 : Int32) / 2 = 0 from by decide]
  exact Int32.not_le.mp h1
