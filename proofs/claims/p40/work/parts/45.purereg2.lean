def hhX (x h : Int32) : Bool := !decide ((x >>> (h &&& 31)) &&& 1 = 0)
def cntN (f : Nat → Bool) : Nat → Nat
  | 0 => 0
  | k + 1 => if f k = true then cntN f k + 1 else cntN f k
theorem cntN_le {f : Nat → Bool} : ∀ {k : Nat}, cntN f k ≤ k
  | 0 => Nat.le_refl _
  | k + 1 => by
    have := cntN_le (f := f) (k := k)
    rw [cntN]; split <;> omega
theorem cntN_t {f : Nat → Bool} {k : Nat} (h : f k = true) : nI (cntN f k + 1) = nI (cntN f (k + 1)) := by rw [cntN, if_pos h]
theorem cntN_f {f : Nat → Bool} {k : Nat} (h : f k = false) : nI (cntN f k) = nI (cntN f (k + 1)) := by rw [cntN, if_neg (by rw [h]; exact Bool.false_ne_true)]
/-- the first place of the greatest -/
def amx (f : Nat → Int32) : Nat → Nat
  | 0 => 0
  | k + 1 => if f (amx f k) < f k then k else amx f k
theorem amx_t {f : Nat → Int32} {k : Nat} (h : f (amx f k) < f k) : nI k = nI (amx f (k + 1)) := by rw [amx, if_pos h]
theorem amx_f {f : Nat → Int32} {k : Nat} (h : ¬ f (amx f k) < f k) : nI (amx f k) = nI (amx f (k + 1)) := by rw [amx, if_neg h]
theorem amx_1 {f : Nat → Int32} : amx f 1 = 0 := by
  rw [amx, amx]; split <;> rfl
abbrev lsI (N : Nat) (D : Nat → Int32) (i : Nat) : Int32 := bitC (stAt (nI N) (nI i) D 0)
abbrev csI (N : Nat) (E : Nat → Int32) (i : Nat) : Int32 := stAt (nI N) (nI i) E 0
abbrev dkB (N : Nat) (D : Nat → Int32) (h : Int32) (i : Nat) : Bool := hhX (stAt (nI N) (nI i) D 0) h
abbrev ltB (N : Nat) (D : Nat → Int32) (i : Nat) : Bool := decide (bitC (stAt (nI N) (nI i) D 0) = 0)
/-- the nearest one that shades: nearest, how far -/
def sbX (N : Nat) (P S : Nat → Int32) (q g : Int32) : Nat → Int32 × Int32
  | 0 => (-1, 100)
  | k + 1 => if (if 0 ≤ stAt (nI N) (nI k) P (-1) - stAt (nI N) q P (-1) then stAt (nI N) (nI k) P (-1) - stAt (nI N) q P (-1) else 0 - (stAt (nI N) (nI k) P (-1) - stAt (nI N) q P (-1))) < (sbX N P S q g k).2 ∧ hhX (shF (nI N) S q (nI k)) g = true then (nI k, if 0 ≤ stAt (nI N) (nI k) P (-1) - stAt (nI N) q P (-1) then stAt (nI N) (nI k) P (-1) - stAt (nI N) q P (-1) else 0 - (stAt (nI N) (nI k) P (-1) - stAt (nI N) q P (-1))) else sbX N P S q g k
theorem hasB_ex {N : Nat} {q : Int32} (hN : N ≤ 12) (h : hasB (nI N) q = true) : ∃ i, i < N ∧ q = nI i := by
  obtain ⟨i, hi, rfl⟩ := vp_in_of (hasB_in h) (by decide)
  have := hasB_lt hN h
  rw [nI_clamp (by omega)] at this
  exact ⟨i, this, rfl⟩
theorem sbX_f {N : Nat} {P S : Nat → Int32} {q g : Int32} {k : Nat} (h : ¬ ((if 0 ≤ stAt (nI N) (nI k) P (-1) - stAt (nI N) q P (-1) then stAt (nI N) (nI k) P (-1) - stAt (nI N) q P (-1) else 0 - (stAt (nI N) (nI k) P (-1) - stAt (nI N) q P (-1))) < (sbX N P S q g k).2 ∧ hhX (shF (nI N) S q (nI k)) g = true)) : sbX N P S q g (k + 1) = sbX N P S q g k := by rw [sbX, if_neg h]
theorem sbX_t {N : Nat} {P S : Nat → Int32} {q g : Int32} {k : Nat} (h : ((if 0 ≤ stAt (nI N) (nI k) P (-1) - stAt (nI N) q P (-1) then stAt (nI N) (nI k) P (-1) - stAt (nI N) q P (-1) else 0 - (stAt (nI N) (nI k) P (-1) - stAt (nI N) q P (-1))) < (sbX N P S q g k).2 ∧ hhX (shF (nI N) S q (nI k)) g = true)) : sbX N P S q g (k + 1) = (nI k, if 0 ≤ stAt (nI N) (nI k) P (-1) - stAt (nI N) q P (-1) then stAt (nI N) (nI k) P (-1) - stAt (nI N) q P (-1) else 0 - (stAt (nI N) (nI k) P (-1) - stAt (nI N) q P (-1))) := by rw [sbX, if_pos h]
