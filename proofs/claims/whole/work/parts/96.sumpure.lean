/-- types of a stack behind a step -/
def tyC (c : Nat) (ts : List Bool) : Option (List Bool) :=
  if c ≤ 5 then some (false :: ts) else if c ≤ 7 then some (true :: ts)
  else if c = 8 then (match ts with | false :: r => some (false :: r) | _ => none)
  else if c = 9 then (match ts with | true :: r => some (true :: r) | _ => none)
  else if c ≤ 15 then (match ts with | false :: false :: r => some (false :: r) | _ => none)
  else if c ≤ 20 then (match ts with | false :: false :: r => some (true :: r) | _ => none)
  else (match ts with | true :: true :: r => some (true :: r) | _ => none)
def tyR (o : Nat → Int32) : Nat → Nat → List Bool → Option (List Bool)
  | _, 0, ts => some ts
  | s, f + 1, ts => (tyC (o s).toNatClampNeg ts).bind (tyR o (s + 1) f)
theorem tyR_add {o : Nat → Int32} {b : Nat} : ∀ (a : Nat) {s : Nat} {ts : List Bool}, tyR o s (a + b) ts = (tyR o s a ts).bind (tyR o (s + a) b)
  | 0, s, ts => by rw [Nat.zero_add]; rfl
  | a + 1, s, ts => by
    rw [show a + 1 + b = (a + b) + 1 by omega, tyR, tyR]
    cases tyC (o s).toNatClampNeg ts with
    | none => rfl
    | some t =>
      show tyR o (s + 1) (a + b) t = (tyR o (s + 1) a t).bind (tyR o (s + (a + 1)) b)
      rw [tyR_add a, show s + 1 + a = s + (a + 1) by omega]
theorem tyR_1 {o : Nat → Int32} {s c : Nat} {ts : List Bool} (h : o s = nI c) (hc : c ≤ 22) : tyR o s 1 ts = tyC c ts := by
  rw [tyR, h, nI_clamp (by omega)]
  cases tyC c ts <;> rfl
theorem Seg.ty {o : Nat → Int32} {b : Bool} {s t : Nat} (h : Seg o b s t) : ∀ ts, tyR o s (t - s) ts = some (b :: ts) := by
  have key := h (fun b s t => s < t ∧ ∀ ts, tyR o s (t - s) ts = some (b :: ts)) ⟨?_, ?_, ?_, ?_, ?_, ?_, ?_⟩
  · exact key.2
  · intro s c hc h
    refine ⟨by omega, fun ts => ?_⟩
    rw [show s + 1 - s = 1 by omega, tyR_1 h (by omega)]; unfold tyC; rw [if_pos hc]
  · intro s c h1 hc h
    refine ⟨by omega, fun ts => ?_⟩
    rw [show s + 1 - s = 1 by omega, tyR_1 h (by omega)]; unfold tyC; rw [if_neg (by omega), if_pos hc]
  · intro s t ⟨l, h1⟩ h
    refine ⟨by omega, fun ts => ?_⟩
    rw [show t + 1 - s = (t - s) + 1 by omega, tyR_add, h1, show s + (t - s) = t by omega]
    exact (tyR_1 h (by decide)).trans rfl
  · intro s t ⟨l, h1⟩ h
    refine ⟨by omega, fun ts => ?_⟩
    rw [show t + 1 - s = (t - s) + 1 by omega, tyR_add, h1, show s + (t - s) = t by omega]
    exact (tyR_1 h (by decide)).trans rfl
  · intro s t u c ⟨l1, h1⟩ ⟨l2, h2⟩ h3 hc h
    refine ⟨by omega, fun ts => ?_⟩
    rw [show u + 1 - s = (t - s) + ((u - t) + 1) by omega, tyR_add, h1, show s + (t - s) = t by omega]
    show tyR o t ((u - t) + 1) (false :: ts) = _
    rw [tyR_add, h2, show t + (u - t) = u by omega]
    refine (tyR_1 h (by omega)).trans ?_
    unfold tyC
    rw [if_neg (by omega), if_neg (by omega), if_neg (by omega), if_neg (by omega), if_pos (by omega)]
  · intro s t u c ⟨l1, h1⟩ ⟨l2, h2⟩ h3 hc h
    refine ⟨by omega, fun ts => ?_⟩
    rw [show u + 1 - s = (t - s) + ((u - t) + 1) by omega, tyR_add, h1, show s + (t - s) = t by omega]
    show tyR o t ((u - t) + 1) (false :: ts) = _
    rw [tyR_add, h2, show t + (u - t) = u by omega]
    refine (tyR_1 h (by omega)).trans ?_
    unfold tyC
    rw [if_neg (by omega), if_neg (by omega), if_neg (by omega), if_neg (by omega), if_neg (by omega), if_pos (by omega)]
  · intro s t u c ⟨l1, h1⟩ ⟨l2, h2⟩ h3 hc h
    refine ⟨by omega, fun ts => ?_⟩
    rw [show u + 1 - s = (t - s) + ((u - t) + 1) by omega, tyR_add, h1, show s + (t - s) = t by omega]
    show tyR o t ((u - t) + 1) (true :: ts) = _
    rw [tyR_add, h2, show t + (u - t) = u by omega]
    refine (tyR_1 h (by omega)).trans ?_
    unfold tyC
    rw [if_neg (by omega), if_neg (by omega), if_neg (by omega), if_neg (by omega), if_neg (by omega), if_neg (by omega)]
def TyL : List Bool → List Int32 → Prop
  | [], [] => True
  | b :: bs, x :: xs => (b = true → x = 0 ∨ x = 1) ∧ TyL bs xs
  | _, _ => False
theorem tyR_s {o : Nat → Int32} {k s1 : Nat} {ts : List Bool} {b : Bool} (hk : k < s1) (h : tyR o k (s1 - k) ts = some [b]) : ∃ t2, tyC (o k).toNatClampNeg ts = some t2 ∧ tyR o (k + 1) (s1 - (k + 1)) t2 = some [b] := by
  rw [show s1 - k = (s1 - (k + 1)) + 1 by omega, tyR] at h
  cases e : tyC (o k).toNatClampNeg ts with
  | none => rw [e] at h; cases h
  | some t => rw [e] at h; exact ⟨t, rfl, h⟩
theorem ty_one {c : Nat} {ts t2 : List Bool} {xs : List Int32} (hc : c = 8 ∨ c = 9) (h : tyC c ts = some t2) (hT : TyL ts xs) : ∃ x r tr, xs = x :: r ∧ ts = (c == 9) :: tr ∧ t2 = (c == 9) :: tr ∧ TyL tr r ∧ (c = 9 → x = 0 ∨ x = 1) := by
  rcases hc with rfl | rfl
  · match ts, xs, hT, h with
    | false :: tr, x :: r, hT, h => exact ⟨x, r, tr, rfl, rfl, (Option.some.inj h).symm, hT.2, fun q => absurd q (by decide)⟩
    | true :: tr, x :: r, hT, h => cases h
    | [], [], hT, h => cases h
  · match ts, xs, hT, h with
    | true :: tr, x :: r, hT, h => exact ⟨x, r, tr, rfl, rfl, (Option.some.inj h).symm, hT.2, fun _ => hT.1 rfl⟩
    | false :: tr, x :: r, hT, h => cases h
    | [], [], hT, h => cases h
theorem ty_two {c : Nat} {ts t2 : List Bool} {xs : List Int32} (h1 : 10 ≤ c) (hc : c ≤ 22) (h : tyC c ts = some t2) (hT : TyL ts xs) : ∃ y x r tr, xs = y :: x :: r ∧ t2 = decide (16 ≤ c) :: tr ∧ TyL tr r ∧ (21 ≤ c → (x = 0 ∨ x = 1) ∧ (y = 0 ∨ y = 1)) := by
  unfold tyC at h
  rw [if_neg (by omega), if_neg (by omega), if_neg (by omega), if_neg (by omega)] at h
  by_cases c1 : c ≤ 15
  · rw [if_pos c1] at h
    match ts, xs, hT, h with
    | false :: false :: tr, y :: x :: r, hT, h => exact ⟨y, x, r, tr, rfl, by rw [decide_eq_false (by omega)]; exact (Option.some.inj h).symm, hT.2.2, fun q => by omega⟩
  · rw [if_neg c1] at h
    by_cases c2 : c ≤ 20
    · rw [if_pos c2] at h
      match ts, xs, hT, h with
      | false :: false :: tr, y :: x :: r, hT, h => exact ⟨y, x, r, tr, rfl, by rw [decide_eq_true (by omega)]; exact (Option.some.inj h).symm, hT.2.2, fun q => by omega⟩
    · rw [if_neg c2] at h
      match ts, xs, hT, h with
      | true :: true :: tr, y :: x :: r, hT, h => exact ⟨y, x, r, tr, rfl, by rw [decide_eq_true (by omega)]; exact (Option.some.inj h).symm, hT.2.2, fun _ => ⟨hT.2.1 rfl, hT.1 rfl⟩⟩
theorem ty_end {ts : List Bool} {b : Bool} {xs : List Int32} {sk : Nat → Int32} (h : some ts = some [b]) (hT : TyL ts xs) (hS : SkL sk xs) : ∃ x, xs = [x] ∧ sk 0 = x ∧ (b = true → x = 0 ∨ x = 1) := by
  have e := Option.some.inj h
  subst e
  match xs, hT, hS with
  | [x], hT, hS => exact ⟨x, rfl, hS.1, hT.1⟩
theorem c23 {c : Nat} (h : c ≤ 22) : c = 0 ∨ c = 1 ∨ c = 2 ∨ c = 3 ∨ c = 4 ∨ c = 5 ∨ c = 6 ∨ c = 7 ∨ c = 8 ∨ c = 9 ∨ c = 10 ∨ c = 11 ∨ c = 12 ∨ c = 13 ∨ c = 14 ∨ c = 15 ∨ c = 16 ∨ c = 17 ∨ c = 18 ∨ c = 19 ∨ c = 20 ∨ c = 21 ∨ c = 22 := by omega
section
variable {lf : Int32 → Int32 → Int32 → Int32} {f s x y : Int32} {r xs : List Int32} {c : Nat}
theorem evS_leaf (hc : c ≤ 7) (hl : xs.length < 400) : evS lf (nI c) f s xs = lf (nI c) f s :: xs := by
  have h1 : ¬ (7 : Int32) < nI c := nI_nlt (a := 7) (b := c) hc (by decide)
  rw [evS, if_neg h1, psh, if_pos hl]
theorem evS_8 (hl : r.length < 400) : evS lf (nI 8) f s (x :: r) = -x :: r := by
  show psh (-x) r = _
  rw [psh, if_pos hl]
theorem evS_9 (hl : r.length < 400) : evS lf (nI 9) f s (x :: r) = (1 - x) :: r := by
  show psh (1 - x) r = _
  rw [psh, if_pos hl]
theorem sm_10 : smX (nI 10) x y = rcM 10 x y := rfl
theorem evS_two (h1 : 10 ≤ c) (hc : c ≤ 22) (hl : r.length < 400) (ht : 21 ≤ c → (x = 0 ∨ x = 1) ∧ (y = 0 ∨ y = 1)) : evS lf (nI c) f s (y :: x :: r) = rcM c x y :: r := by
  have key : (if 16 ≤ nI c then b2i (tsX (nI c) x y) else smX (nI c) x y) = rcM c x y := by
    have : c = 10 ∨ c = 11 ∨ c = 12 ∨ c = 13 ∨ c = 14 ∨ c = 15 ∨ c = 16 ∨ c = 17 ∨ c = 18 ∨ c = 19 ∨ c = 20 ∨ c = 21 ∨ c = 22 := by omega
    rcases this with rfl | rfl | rfl | rfl | rfl | rfl | rfl | rfl | rfl | rfl | rfl | rfl | rfl
    iterate 11 rfl
    · obtain ⟨h1, h2⟩ := ht (by decide)
      rcases h1 with rfl | rfl <;> rcases h2 with rfl | rfl <;> rfl
    · obtain ⟨h1, h2⟩ := ht (by decide)
      rcases h1 with rfl | rfl <;> rcases h2 with rfl | rfl <;> rfl
  have h7 : (7 : Int32) < nI c := nI_lt (a := 7) (b := c) (by omega) (by omega)
  have h9 : (9 : Int32) < nI c := nI_lt (a := 9) (b := c) (by omega) (by omega)
  rw [evS, if_pos h7, if_pos h9]
  show psh (if 16 ≤ nI c then b2i (tsX (nI c) x y) else smX (nI c) x y) r = _
  rw [key, psh, if_pos hl]
theorem rcM_b (h1 : 16 ≤ c) (hc : c ≤ 22) (ht : 21 ≤ c → (x = 0 ∨ x = 1) ∧ (y = 0 ∨ y = 1)) : rcM c x y = 0 ∨ rcM c x y = 1 := by
  have hb : ∀ b : Bool, b2i b = 0 ∨ b2i b = 1 := by decide
  have : c = 16 ∨ c = 17 ∨ c = 18 ∨ c = 19 ∨ c = 20 ∨ c = 21 ∨ c = 22 := by omega
  rcases this with rfl | rfl | rfl | rfl | rfl | rfl | rfl
  · exact hb _
  · exact hb _
  · exact hb _
  · exact hb _
  · exact hb _
  · obtain ⟨h1, h2⟩ := ht (by decide)
    rcases h1 with rfl | rfl <;> rcases h2 with rfl | rfl <;> decide
  · obtain ⟨h1, h2⟩ := ht (by decide)
    rcases h1 with rfl | rfl <;> rcases h2 with rfl | rfl <;> decide
end
theorem evL_s {lf : Int32 → Int32 → Int32 → Int32} {o g j : Nat → Int32} {k s1 : Nat} {xs : List Int32} (hk : k < s1) : evL lf o g j k (s1 - k) xs = evL lf o g j (k + 1) (s1 - (k + 1)) (evS lf (o k) (g k) (j k) xs) := by
  rw [show s1 - k = (s1 - (k + 1)) + 1 by omega, evL]
theorem one_m {x : Int32} (h : x = 0 ∨ x = 1) : 1 - x = 0 ∨ 1 - x = 1 := by
  rcases h with rfl | rfl <;> decide
theorem b2i_01 (b : Bool) : b2i b = 0 ∨ b2i b = 1 := by cases b <;> decide
def lfI (N : Nat) (dg : Int32) (P H F T : Nat → Int32) (op f s : Int32) : Int32 := lfM N dg P H F T op.toNatClampNeg f s
theorem lfI_nI {N c : Nat} {dg f s : Int32} {P H F T : Nat → Int32} (hc : c ≤ 22) : lfI N dg P H F T (nI c) f s = lfM N dg P H F T c f s := by
  unfold lfI; rw [nI_clamp (by omega)]
theorem lfM_1 {N : Nat} {dg f s f2 s2 : Int32} {P H F T : Nat → Int32} : lfM N dg P H F T 1 f s = lfM N dg P H F T 1 f2 s2 := by simp only [lfM]
theorem lfM_2 {N : Nat} {dg f s f2 s2 : Int32} {P H F T : Nat → Int32} : lfM N dg P H F T 2 f s = lfM N dg P H F T 2 f2 s2 := by simp only [lfM]
theorem lfM_3 {N : Nat} {dg f s s2 : Int32} {P H F T : Nat → Int32} : lfM N dg P H F T 3 f s = lfM N dg P H F T 3 f s2 := by simp only [lfM]
theorem lfM_4 {N : Nat} {dg f s s2 : Int32} {P H F T : Nat → Int32} : lfM N dg P H F T 4 f s = lfM N dg P H F T 4 f s2 := by simp only [lfM]
theorem lfM_5 {N : Nat} {dg f s s2 : Int32} {P H F T : Nat → Int32} : lfM N dg P H F T 5 f s = lfM N dg P H F T 5 f s2 := by simp only [lfM]
theorem lfM_7 {N : Nat} {dg f s s2 : Int32} {P H F T : Nat → Int32} : lfM N dg P H F T 7 f s = lfM N dg P H F T 7 f s2 := by simp only [lfM]
theorem nI_dec2 {d : Nat} : nI (d + 2) + (-1) = nI (d + 1) := by
  rw [show d + 2 = (d + 1) + 1 from rfl, ← Int32.sub_eq_add_neg]
  exact nI_dec

