theorem sw2 (wa A B : va_W) : ((wa ++ A) ++ B).Perm ((wa ++ B) ++ A) := by
  rw [List.append_assoc, List.append_assoc]
  exact List.perm_append_comm.append_left wa
theorem be_ok {N : Nat} {P H F T S D E : Nat → Int32} (hN : N ≤ 12) : StOk N P H F T (lostF N (beS (gF N P H F T) N S N) N) (beS (gF N P H F T) N S N) (fillN (darkF N (beS (gF N P H F T) N S N)) D N) (fillN (castF N (beS (gF N P H F T) N S N)) E N) :=
  stok_add (fun i j hi hj => by rw [beS_at hN (by omega) hj N (Nat.le_refl _), if_pos hi]; exact gF_eq hi hj hN P H F T)
