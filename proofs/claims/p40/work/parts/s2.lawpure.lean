theorem cnt_up {y : Nat → Nat → Bool} {a q : Nat} (c : Nat) (e : c = cnN (y q) a + b2n (y q a)) : upd (fun i => if i < q then nI (cnN (y i) (a + 1)) else nI (cnN (y i) a)) q (nI c) = fun i => if i < q + 1 then nI (cnN (y i) (a + 1)) else nI (cnN (y i) a) := by
  funext i
  by_cases z : i = q
  · subst z
    simp only [upd, if_true]
    rw [if_pos (by omega), e, cnN_s]
  · have h : i < q ↔ i < q + 1 := by omega
    simp [upd, z, h]
theorem tl_lo {h f t : Nat → Nat} {a k : Nat} (h1 : ¬ f a = 0) (h2 : f a ≤ k) (h3 : k ≤ t a) : tlN h f t a k = 0 := if_pos ⟨h1, h2, h3⟩
theorem tl_hi {h f t : Nat → Nat} {a k : Nat} (h1 : ¬ (f a ≠ 0 ∧ f a ≤ k ∧ k ≤ t a)) : tlN h f t a k = h a := if_neg h1
theorem op_of {o : Option Nat} {c : Nat} (h : o = some c) : opI o = nI c := by rw [h]; rfl
