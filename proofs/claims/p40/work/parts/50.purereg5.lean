abbrev DY : Type := HFT × Int32 × Int32
/-- one day: heights and curfews, laws carried out, days gone -/
def dyS (N : Nat) (P o g j l0 : Nat → Int32) (hh c0 c1 c2 c3 : Nat → Nat) (u : Nat) (q : DY) : DY := ((dayL N q.2.2 P o g j l0 hh c0 c1 c2 c3 0 u (q.1, q.2.1)).1, (dayL N q.2.2 P o g j l0 hh c0 c1 c2 c3 0 u (q.1, q.2.1)).2, q.2.2 + 1)
def dyN (N : Nat) (P o g j l0 : Nat → Int32) (hh c0 c1 c2 c3 : Nat → Nat) (u : Nat) (q : DY) : Nat → DY
  | 0 => q
  | n + 1 => dyS N P o g j l0 hh c0 c1 c2 c3 u (dyN N P o g j l0 hh c0 c1 c2 c3 u q n)
theorem days_ex {q : Int32} (h : ¬ (q < 1 ∨ 30 < q)) : ∃ n, 1 ≤ n ∧ n ≤ 30 ∧ q = nI n := by
  have h1 : ¬ q < 1 := fun e => h (Or.inl e)
  have h2 : ¬ 30 < q := fun e => h (Or.inr e)
  have h3 := Int32.le_iff_toInt_le.mp (Int32.not_lt.mp h1)
  have h4 := Int32.le_iff_toInt_le.mp (Int32.not_lt.mp h2)
  have e1 : (1 : Int32).toInt = 1 := rfl
  have e30 : (30 : Int32).toInt = 30 := rfl
  rw [e1] at h3
  rw [e30] at h4
  refine ⟨q.toInt.toNat, by omega, by omega, Int32.toInt_inj.mp ?_⟩
  rw [nI_toInt (by omega)]; omega
theorem hours_ex {q : Int32} (h : ¬ (q < 1 ∨ 13 < q)) : ∃ n, 1 ≤ n ∧ n ≤ 13 ∧ q = nI n := by
  have h1 : ¬ q < 1 := fun e => h (Or.inl e)
  have h2 : ¬ 13 < q := fun e => h (Or.inr e)
  have h3 := Int32.le_iff_toInt_le.mp (Int32.not_lt.mp h1)
  have h4 := Int32.le_iff_toInt_le.mp (Int32.not_lt.mp h2)
  have e1 : (1 : Int32).toInt = 1 := rfl
  have e30 : (13 : Int32).toInt = 13 := rfl
  rw [e1] at h3
  rw [e30] at h4
  refine ⟨q.toInt.toNat, by omega, by omega, Int32.toInt_inj.mp ?_⟩
  rw [nI_toInt (by omega)]; omega
/-- how many hours all lose, of a day's state -/
abbrev lgD (N : Nat) (P : Nat → Int32) (q : DY) : Int32 := laG N P q.1.1 q.1.2.1 q.1.2.2
def duG (f : Nat → Int32) (n : Nat) : Int32 := match fstN (fun k => f k == 0) n with
  | some k => nI k
  | none => -1
theorem duG_some {f : Nat → Int32} {n k : Nat} (hk : k < n) (h : f k = 0) (hj : ∀ i, i < k → ¬ f i = 0) : duG f n = nI k := by
  have e : fstN (fun k => f k == 0) n = some k := fstN_some hk (beq_iff_eq.mpr h) (fun i hi => beq_false_of_ne (hj i hi))
  rw [duG, e]
theorem duG_none {f : Nat → Int32} {n : Nat} (hj : ∀ i, i < n → ¬ f i = 0) : duG f n = -1 := by
  have e : fstN (fun k => f k == 0) n = none := fstN_none (fun i hi => beq_false_of_ne (hj i hi))
  rw [duG, e]
def duX (N : Nat) (P o g j l0 : Nat → Int32) (hh c0 c1 c2 c3 : Nat → Nat) (u : Nat) (q : DY) : Int32 := duG (fun k => lgD N P (dyN N P o g j l0 hh c0 c1 c2 c3 u q k)) 31
theorem du_some {N : Nat} {P o g j l0 : Nat → Int32} {hh c0 c1 c2 c3 : Nat → Nat} {u : Nat} {q : DY} {k : Nat} (hk : k < 31) (h : lgD N P (dyN N P o g j l0 hh c0 c1 c2 c3 u q k) = 0) (hj : ∀ i, i < k → ¬ lgD N P (dyN N P o g j l0 hh c0 c1 c2 c3 u q i) = 0) : duX N P o g j l0 hh c0 c1 c2 c3 u q = nI k := by
  exact duG_some (f := fun k => lgD N P (dyN N P o g j l0 hh c0 c1 c2 c3 u q k)) hk h hj
theorem du_none {N : Nat} {P o g j l0 : Nat → Int32} {hh c0 c1 c2 c3 : Nat → Nat} {u : Nat} {q : DY} (hj : ∀ i, i < 31 → ¬ lgD N P (dyN N P o g j l0 hh c0 c1 c2 c3 u q i) = 0) : duX N P o g j l0 hh c0 c1 c2 c3 u q = -1 := by
  exact duG_none (f := fun k => lgD N P (dyN N P o g j l0 hh c0 c1 c2 c3 u q k)) hj
