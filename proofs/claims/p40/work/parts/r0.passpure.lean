def hdI (v lo hi : Int32) : Int32 := if v < lo then lo else if hi < v then hi else v
def clN (v : Int32) : Nat := if v < 6 then 6 else if 18 < v then 18 else v.toInt.toNat
def raN (x : Nat) (v : Int32) : Nat := if v < -(nI x) then 0 else if 30 - nI x < v then 30 else ((x : Int) + v.toInt).toNat
theorem hd_cl (v : Int32) : hdI v 6 18 = nI (clN v) ∧ 6 ≤ clN v ∧ clN v ≤ 18 := by
  unfold hdI clN
  by_cases c : v < 6
  · rw [if_pos c, if_pos c]; exact ⟨rfl, by decide, by decide⟩
  · rw [if_neg c, if_neg c]
    by_cases d : 18 < v
    · rw [if_pos d, if_pos d]; exact ⟨rfl, by decide, by decide⟩
    · rw [if_neg d, if_neg d]
      have h1 := Int32.le_iff_toInt_le.mp (Int32.not_lt.mp c)
      have h2 := Int32.le_iff_toInt_le.mp (Int32.not_lt.mp d)
      have e6 : (6 : Int32).toInt = 6 := rfl
      have e18 : (18 : Int32).toInt = 18 := rfl
      refine ⟨Int32.toInt_inj.mp ?_, by omega, by omega⟩
      rw [nI_toInt (by omega)]
      omega
theorem hd_ra {x : Nat} (hx : x ≤ 30) (v : Int32) : nI x + hdI v (-(nI x)) (30 - nI x) = nI (raN x v) ∧ raN x v ≤ 30 := by
  have e30 : (30 : Int32) - nI x = nI (30 - x) := pk_sub (a := 30) hx
  unfold hdI raN
  by_cases c : v < -(nI x)
  · rw [if_pos c, if_pos c]
    exact ⟨by rw [Int32.add_right_neg]; rfl, by decide⟩
  · rw [if_neg c, if_neg c]
    by_cases d : 30 - nI x < v
    · rw [if_pos d, if_pos d, e30, nI_add]
      exact ⟨congrArg nI (by omega), by decide⟩
    · rw [if_neg d, if_neg d]
      have h1 := Int32.le_iff_toInt_le.mp (Int32.not_lt.mp c)
      have h2 := Int32.le_iff_toInt_le.mp (Int32.not_lt.mp d)
      have e1 : (-(nI x)).toInt = -(x : Int) := by
        have := pk_sub_toInt (a := 0) (b := x) (by decide) (by omega)
        rw [show nI 0 - nI x = -(nI x) from Int32.zero_sub _] at this
        omega
      rw [e30, nI_toInt (by omega)] at h2
      rw [e1] at h1
      have e2 : v = nI ((x : Int) + v.toInt).toNat - nI x := by
        apply Int32.toInt_inj.mp
        rw [pk_sub_toInt (by omega) (by omega)]
        omega
      refine ⟨?_, by omega⟩
      rw [Int32.add_comm]
      calc v + nI x = (nI ((x : Int) + v.toInt).toNat - nI x) + nI x := by rw [← e2]
        _ = _ := Int32.sub_add_cancel _ _
abbrev PD3 : Type := (Nat → Nat) × (Nat → Nat) × (Nat → Nat)
abbrev PD4 : Type := (Nat → Nat) × (Nat → Nat) × (Nat → Nat) × Int32
/-- what a law makes of heights and curfews -/
def pd3 (Z : GZ) (p : Nat → Nat) (dy : Int32) (h f t : Nat → Nat) (k : Nat) : PD3 :=
  if toK Z k = 0 then
    (if clN (ofN (toN Z) dy p h f t 2 (oneQ Z k)) ≤ clN (ofN (toN Z) dy p h f t 2 (twoQ Z k)) then (h, upN f (toV Z k) (clN (ofN (toN Z) dy p h f t 2 (oneQ Z k))), upN t (toV Z k) (clN (ofN (toN Z) dy p h f t 2 (twoQ Z k)))) else (h, f, t))
  else if toK Z k = 1 then (h, upN f (toV Z k) 0, upN t (toV Z k) 0)
  else (upN h (toV Z k) (raN (h (toV Z k)) (ofN (toN Z) dy p h f t 2 (oneQ Z k))), f, t)
def pdC (w : Nat) (h f t : Nat → Nat) (r : PD3) : Int32 := if r.1 w = h w ∧ r.2.1 w = f w ∧ r.2.2 w = t w then 0 else 1
def pdS (Z : GZ) (p : Nat → Nat) (dy : Int32) (k : Nat) (q : PD4) : PD4 :=
  if hasT Z k = true ∧ ¬ ofN (toN Z) dy p q.1 q.2.1 q.2.2.1 4 (tesQ Z k) = 1 then q
  else ((pd3 Z p dy q.1 q.2.1 q.2.2.1 k).1, (pd3 Z p dy q.1 q.2.1 q.2.2.1 k).2.1, (pd3 Z p dy q.1 q.2.1 q.2.2.1 k).2.2, q.2.2.2 + pdC (toV Z k) q.1 q.2.1 q.2.2.1 (pd3 Z p dy q.1 q.2.1 q.2.2.1 k))
def pdN (Z : GZ) (p : Nat → Nat) (dy : Int32) (q : PD4) : Nat → PD4
  | 0 => q
  | k + 1 => pdS Z p dy k (pdN Z p dy q k)
theorem pdS_no {Z : GZ} {p h f t : Nat → Nat} {dy ca : Int32} {k : Nat} (h1 : hasT Z k = true) (h2 : ¬ ofN (toN Z) dy p h f t 4 (tesQ Z k) = 1) : pdS Z p dy k (h, f, t, ca) = (h, f, t, ca) := if_pos ⟨h1, h2⟩
theorem pdS_yes {Z : GZ} {p h f t h' f' t' : Nat → Nat} {dy ca c : Int32} {k : Nat} (h1 : ¬ (hasT Z k = true ∧ ¬ ofN (toN Z) dy p h f t 4 (tesQ Z k) = 1)) (h2 : pd3 Z p dy h f t k = (h', f', t')) (h3 : pdC (toV Z k) h f t (h', f', t') = c) : pdS Z p dy k (h, f, t, ca) = (h', f', t', ca + c) := by
  rw [pdS, if_neg h1]
  dsimp only
  rw [h2, h3]
