theorem nI_prd {m : Nat} (h : 1 ≤ m) : nI m - 1 = nI (m - 1) := by
  rw [show (1 : Int32) = nI 1 from rfl, pk_sub h]

