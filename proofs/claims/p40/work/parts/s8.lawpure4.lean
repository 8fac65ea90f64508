theorem upd_back {F : Nat → Int32} {i : Nat} {a b c : Int32} (h : F i = c) : upd (upd (upd F i a) i b) i c = F := by
  subst h
  funext j
  by_cases e : j = i <;> simp [upd, e]
theorem upN_bk2 {f : Nat → Nat} {i a b c : Nat} (h : f i = c) : upN (upN (upN f i a) i b) i c = f := by
  subst h
  funext j
  by_cases e : j = i <;> simp [upN, e]
