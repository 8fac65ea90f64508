theorem ca_one {x : Int32} {b : Bool} : (if b = true then x + 1 else x) = x + b2i b := by
  cases b
  · rw [if_neg Bool.false_ne_true]; exact (Int32.add_zero x).symm
  · rw [if_pos rfl]; rfl

