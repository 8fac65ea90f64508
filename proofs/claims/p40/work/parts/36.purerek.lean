/-- a reckoner's cells -/
def wRk (Z : GZ) (r b : Nat → Nat) (sk : Int32) (ss : Nat → Int32) : va_W := [(r 0, .inr (3, [.ref (b 0), .ref (r 1), .int sk])), (r 1, .inl (zA Z 0, 400, .inl ss))]
theorem rk_len {Z : GZ} {r b : Nat → Nat} {sk : Int32} {ss : Nat → Int32} : (wRk Z r b sk ss).length = 2 := rfl
theorem i32_ne {x : Int32} {c : Int32} {n : Int} (h : ¬ x = c) (hn : c.toInt = n) : x.toInt ≠ n := fun e => h (Int32.toInt_inj.mp (e.trans hn.symm))
def shX (N : Nat) (P H F T : Nat → Int32) (h b : Int32) : Int32 := if hasB (nI N) h = true ∧ hasB (nI N) b = true then shH P H F T h.toNatClampNeg b.toNatClampNeg else 0
def lsG (N : Nat) (P H F T : Nat → Int32) (h : Int32) : Int32 := bitC (stAt (nI N) h (dkG N P H F T) 0)
def lfG (N : Nat) (dg : Int32) (P H F T : Nat → Int32) (op f s : Int32) : Int32 :=
  if op = 0 then f else if op = 1 then dg else if op = 2 then mostN (dkG N P H F T) N else if op = 3 then lsG N P H F T f else if op = 4 then stAt (nI N) f (csG N P H F T) 0 else if op = 5 then stAt (nI N) f H 0 else if op = 6 then b2i (!decide (shX N P H F T s f = 0)) else b2i (!decide (lsG N P H F T f = 0))
theorem hasB_lt {N : Nat} {h : Int32} (hN : N ≤ 12) (e : hasB (nI N) h = true) : h.toNatClampNeg < N := by
  obtain ⟨i, hi, rfl⟩ := vp_in_of (hasB_in e) (by decide)
  simp only [hasB, Bool.and_eq_true, Bool.not_eq_true', decide_eq_false_iff_not] at e
  rw [nI_clamp (by omega)]
  rcases Nat.lt_or_ge i N with c | c
  · exact c
  · exact absurd (nI_le c (by omega)) e.2.1
theorem stAt_ok {N : Nat} {D E : Nat → Int32} {h x : Int32} (hN : N ≤ 12) (e : ∀ i, i < N → D i = E i) : stAt (nI N) h D x = stAt (nI N) h E x := by
  unfold stAt
  by_cases c : hasB (nI N) h = true
  · rw [if_pos c, if_pos c, e _ (hasB_lt hN c)]
  · rw [if_neg c, if_neg c]
theorem mostN_ok {D E : Nat → Int32} : ∀ {k : Nat}, (∀ i, i < k → D i = E i) → mostN D k = mostN E k
  | 0, _ => rfl
  | k + 1, h => by rw [mostN, mostN, mostN_ok (fun i hi => h i (by omega)), h k (by omega)]
theorem shF_ok {N : Nat} {P H F T S : Nat → Int32} {h b : Int32} (hN : N ≤ 12) (e : ∀ i j, i < N → j < N → S (i * 12 + j) = shH P H F T i j) : shF (nI N) S h b = shX N P H F T h b := by
  unfold shF shX
  by_cases c : hasB (nI N) h = true ∧ hasB (nI N) b = true
  · rw [if_pos c, if_pos c, ← e _ _ (hasB_lt hN c.1) (hasB_lt hN c.2)]
    obtain ⟨i, hi, rfl⟩ := vp_in_of (hasB_in c.1) (by decide)
    obtain ⟨j, hj, rfl⟩ := vp_in_of (hasB_in c.2) (by decide)
    rw [ij_nI hi hj, nI_clamp (by omega), nI_clamp (by omega)]
  · rw [if_neg c, if_neg c]
def smX (op l r : Int32) : Int32 := if op = 10 then l + r else if op = 11 then l - r else if op = 12 then l * r else if op = 13 then (if r = 0 then 0 else l / r) else if op = 14 then (if r < l then r else l) else (if l < r then r else l)
def tsX (op l r : Int32) : Bool := if op = 16 then decide (l < r) else if op = 17 then decide (r < l) else if op = 18 then decide (l = r) else if op = 19 then decide (l ≤ r) else if op = 20 then decide (r ≤ l) else if op = 21 then (!decide (l = 0) && !decide (r = 0)) else (!decide (l = 0) || !decide (r = 0))
/-- what the stack gives -/
def ppF (ss : Nat → Int32) (d : Nat) : Int32 := if d = 0 then 0 else ss (d - 1)
def SkL (ss : Nat → Int32) : List Int32 → Prop
  | [] => True
  | x :: xs => ss xs.length = x ∧ SkL ss xs
def SkR (ss : Nat → Int32) (d : Nat) (xs : List Int32) : Prop := d = xs.length ∧ d ≤ 400 ∧ SkL ss xs
def psh (x : Int32) (xs : List Int32) : List Int32 := if xs.length < 400 then x :: xs else xs
theorem skl_upd {ss : Nat → Int32} {k : Nat} {y : Int32} : ∀ {xs : List Int32}, xs.length ≤ k → SkL ss xs → SkL (upd ss k y) xs
  | [], _, _ => trivial
  | x :: xs, h, ⟨h1, h2⟩ => by
    have h3 : xs.length + 1 ≤ k := h
    exact ⟨(upd_n (by omega)).trans h1, skl_upd (by omega) h2⟩
theorem skr_push {ss : Nat → Int32} {d : Nat} {xs : List Int32} (x : Int32) (h : SkR ss d xs) : SkR (updC ss d 400 x) (inc d 400) (psh x xs) := by
  obtain ⟨rfl, h2, h3⟩ := h
  unfold psh updC inc
  by_cases c : xs.length < 400
  · rw [if_pos c, if_pos c, if_pos c]; exact ⟨rfl, by omega, upd_s, skl_upd (Nat.le_refl _) h3⟩
  · rw [if_neg c, if_neg c, if_neg c]; exact ⟨rfl, h2, h3⟩
theorem skr_pop {ss : Nat → Int32} {d : Nat} {xs : List Int32} (h : SkR ss d xs) : SkR ss (d - 1) xs.tail ∧ ppF ss d = xs.headD 0 := by
  obtain ⟨rfl, h2, h3⟩ := h
  cases xs with
  | nil => exact ⟨⟨rfl, by simp, trivial⟩, rfl⟩
  | cons x xs =>
    have h4 : xs.length + 1 ≤ 400 := h2
    exact ⟨⟨rfl, by simp; omega, h3.2⟩, h3.1⟩
def evS (lf : Int32 → Int32 → Int32 → Int32) (op f s : Int32) (xs : List Int32) : List Int32 :=
  if 7 < op then (if 9 < op then psh (if 16 ≤ op then b2i (tsX op (xs.tail.headD 0) (xs.headD 0)) else smX op (xs.tail.headD 0) (xs.headD 0)) xs.tail.tail
    else psh (if op = 8 then -(xs.headD 0) else 1 - xs.headD 0) xs.tail) else psh (lf op f s) xs
def evL (lf : Int32 → Int32 → Int32 → Int32) (o g j : Nat → Int32) : Nat → Nat → List Int32 → List Int32
  | _, 0, xs => xs
  | k, f + 1, xs => evL lf o g j (k + 1) f (evS lf (o k) (g k) (j k) xs)
def rkX (lf : Int32 → Int32 → Int32 → Int32) (o g j : Nat → Int32) (lo hi : Nat) : Int32 := (evL lf o g j lo (hi - lo) []).headD 0
