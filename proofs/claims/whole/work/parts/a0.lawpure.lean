theorem hd_hl (x : Int32) : hdM x = hlF x.toInt64 6 18 := by
  have h18 : (x.toInt64 < (18 : Int32).toInt64) ↔ x < 18 := by
    rw [Int64.lt_iff_toInt_lt, Int32.lt_iff_toInt_lt, Int32.toInt_toInt64, Int32.toInt_toInt64]
  have h6 : (x.toInt64 < (6 : Int32).toInt64) ↔ x < 6 := by
    rw [Int64.lt_iff_toInt_lt, Int32.lt_iff_toInt_lt, Int32.toInt_toInt64, Int32.toInt_toInt64]
  have hb : ¬ ((18 : Int32).toInt64 < (6 : Int32).toInt64) := by decide
  have hx : x.toInt64.toInt32 = x := by simp
  unfold hdM hlF
  by_cases c : x < 18
  · rw [if_pos c, if_pos (h18.mpr c)]
    by_cases d : x < 6
    · rw [if_neg (fun e => Int32.lt_asymm d e), if_pos (h6.mpr d)]; rfl
    · rw [if_neg (fun e => d (h6.mp e)), hx]
      by_cases e : 6 < x
      · rw [if_pos e]
      · rw [if_neg e]
        exact Int32.le_antisymm (Int32.not_lt.mp d) (Int32.not_lt.mp e)
  · rw [if_neg c, if_neg (fun e => c (h18.mp e)), if_neg hb]; rfl
/-- a law's parts, with numbers -/
def LawN (o dz bg en : Nat → Int32) (S y : Nat) (z0 : Int32) (c0 c1 c2 c3 : Nat) : Prop :=
  c0 ≤ c1 ∧ c1 ≤ c2 ∧ c2 ≤ c3 ∧ c3 ≤ S ∧ bg (3 * y + 0) = nI c2 ∧ en (3 * y + 0) = nI c3 ∧ (c2 = c3 ∨ Seg o true c2 c3) ∧
    ((z0 = 0 ∧ dz y = 4 ∧ bg (3 * y + 1) = nI c0 ∧ en (3 * y + 1) = nI c1 ∧ bg (3 * y + 2) = nI c1 ∧ en (3 * y + 2) = nI c2 ∧ Seg o false c0 c1 ∧ Seg o false c1 c2) ∨
     (z0 = 1 ∧ dz y = 7) ∨
     (z0 = 2 ∧ dz y = 8 ∧ bg (3 * y + 1) = nI c0 ∧ en (3 * y + 1) = nI c1 ∧ Seg o false c0 c1))
theorem LawOk.num {o dz bg en : Nat → Int32} {S y : Nat} {z0 z2 z3 z4 z5 : Int32} (h : LawOk o dz bg en S y z0 z2 z3 z4 z5) (hS : S ≤ 400) : z2 = nI z2.toNatClampNeg ∧ z3 = nI z3.toNatClampNeg ∧ z4 = nI z4.toNatClampNeg ∧ z5 = nI z5.toNatClampNeg ∧ LawN o dz bg en S y z0 z2.toNatClampNeg z3.toNatClampNeg z4.toNatClampNeg z5.toNatClampNeg := by
  obtain ⟨s0, s1, s2, s3, q1, q2, q3, q4, rfl, rfl, rfl, rfl, r⟩ := h
  rw [nI_clamp (by omega), nI_clamp (by omega), nI_clamp (by omega), nI_clamp (by omega)]
  exact ⟨rfl, rfl, rfl, rfl, q1, q2, q3, q4, r⟩
theorem upd_self {f : Nat → Int32} {k : Nat} {x : Int32} (h : f k = x) : upd f k x = f := by
  funext i
  by_cases e : i = k
  · subst e; rw [upd_s, h]
  · rw [upd_n e]
theorem cuF_same {H F T : Nat → Int32} {h : Nat} {x y : Int32} (h1 : F h = x) (h2 : T h = y) : cuF H F T h x y = (false, H, F, T) := by
  rw [cuF, upd_self h1, upd_self h2, h1, h2]; simp
theorem cuF_diff {H F T : Nat → Int32} {h : Nat} {x y : Int32} (hd : ¬ (F h = x ∧ T h = y)) : cuF H F T h x y = (true, H, upd F h x, upd T h y) := by
  rw [cuF]
  by_cases a : F h = x
  · have b : ¬ T h = y := fun e => hd ⟨a, e⟩
    simp [b]
  · simp [a]
theorem hgF_same {H F T : Nat → Int32} {h : Nat} {x : Int32} (h1 : H h = x) : hgF H F T h x = (false, H, F, T) := by
  rw [hgF, upd_self h1, h1]; simp
theorem hgF_diff {H F T : Nat → Int32} {h : Nat} {x : Int32} (h1 : ¬ H h = x) : hgF H F T h x = (true, upd H h x, F, T) := by
  rw [hgF]; simp [h1]
/-- no first low hour: no last one -/
def FTok (N : Nat) (F T : Nat → Int32) : Prop := ∀ h, h < N → F h = -1 → T h = -1
theorem hld1 {c2 c3 : Nat} {r v : Int32} (h : (if c2 = c3 then (1 : Int32) else r) = v) (h1 : v = 1) (hle : c2 ≤ c3) : (!(decide (c2 < c3) && decide (r = 0))) = true := by
  by_cases e : c2 = c3
  · simp [e]
  · rw [if_neg e] at h
    rw [h, h1]; simp
theorem hld0 {c2 c3 : Nat} {r v : Int32} (h : (if c2 = c3 then (1 : Int32) else r) = v) (h1 : ¬ v = 1) (hle : c2 ≤ c3) (ht : c2 < c3 → true = true → r = 0 ∨ r = 1) : (!(decide (c2 < c3) && decide (r = 0))) = false := by
  by_cases e : c2 = c3
  · rw [if_pos e] at h; exact absurd h.symm h1
  · rw [if_neg e] at h
    rcases ht (by omega) rfl with q | q
    · rw [q, decide_eq_true (by omega)]; rfl
    · exact absurd (h.symm.trans q) h1
theorem FTok.up {N h : Nat} {F T : Nat → Int32} {x y : Int32} (hf : FTok N F T) (hxy : x = -1 → y = -1) : FTok N (upd F h x) (upd T h y) := by
  intro i hi e
  by_cases q : i = h
  · subst q; rw [upd_s] at e ⊢; exact hxy e
  · rw [upd_n q] at e ⊢; exact hf i hi e
theorem hl_ne (x : Int64) : hlF x 6 18 ≠ -1 := by
  unfold hlF
  by_cases c : x < (18 : Int32).toInt64
  · rw [if_pos c]
    by_cases d : x < (6 : Int32).toInt64
    · rw [if_pos d]; decide
    · rw [if_neg d]
      intro e
      have h1 := Int64.le_iff_toInt_le.mp (Int64.not_lt.mp d)
      have h2 := Int64.lt_iff_toInt_lt.mp c
      have e6 : ((6 : Int32).toInt64).toInt = 6 := by decide
      have e18 : ((18 : Int32).toInt64).toInt = 18 := by decide
      rw [e6] at h1
      rw [e18] at h2
      have h3 := congrArg Int32.toInt e
      rw [Int64.toInt_toInt32] at h3
      have h4 : x.toInt.bmod (2 ^ 32) = x.toInt := Int.bmod_eq_of_le (by omega) (by omega)
      rw [h4] at h3
      have h5 : (-1 : Int32).toInt = -1 := by decide
      omega
  · rw [if_neg c, if_neg (by decide)]; decide

