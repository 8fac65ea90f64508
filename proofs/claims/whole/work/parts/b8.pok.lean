/-! What a book without an error tells: places below 100. -/
section
variable {tk : Nat → Nat} {sf : Nat → Int32} {vf nm : Nat → Int64} {m : Nat}
/-- no flaw, and not beyond the T-th token -/
def Fz (T : Nat) (q : PS) : Prop := q.2.2.1 = 0 ∧ q.1 ≤ T
def Stk (f : PS → PS) : Prop := ∀ (T : Nat) (q : PS), Fz T (f q) → Fz T q
theorem stk_id : Stk (fun q => q) := fun _ _ h => h
theorem stk_take (k : Nat) : Stk (takeC tk sf k) := by
  rintro T ⟨i, b, e, a, r⟩ h
  rw [takeC] at h
  by_cases c : nw tk i b = k
  · rw [if_pos c] at h
    have h1 : e = 0 := h.1
    have h2 : i + 1 ≤ T := h.2
    exact ⟨h1, show i ≤ T by omega⟩
  · rw [if_neg c] at h
    have h1 : (if b = true then e else 1) = 0 := h.1
    cases b
    · exact absurd (show (1 : Int32) = 0 from h1) (by decide)
    · exact ⟨h1, h.2⟩
theorem stk_fail : Stk (failC sf) := by
  rintro T ⟨i, b, e, a, r⟩ h
  have h1 : (if b = true then e else 1) = 0 := h.1
  cases b
  · exact absurd (show (1 : Int32) = 0 from h1) (by decide)
  · exact ⟨h1, h.2⟩
theorem stk_tell {x y : Int32} : Stk (tellC x y) := by
  rintro T ⟨i, b, e, a, r⟩ h
  have h1 : (if e = 0 then x else e) = 0 := h.1
  by_cases c : e = 0
  · exact ⟨c, h.2⟩
  · rw [if_neg c] at h1; exact absurd h1 c
theorem tell_no {x y : Int32} {T : Nat} {q : PS} (hx : ¬ x = 0) : ¬ Fz T (tellC x y q) := by
  obtain ⟨i, b, e, a, r⟩ := q
  rintro ⟨h, -⟩
  have h1 : (if e = 0 then x else e) = 0 := h
  by_cases c : e = 0
  · rw [if_pos c] at h1; exact hx h1
  · rw [if_neg c] at h1; exact c h1
theorem stk_step (x y z : Int32) : Stk (stepC x y z) := by
  rintro T ⟨i, b, e, a, s, o, g, j⟩ h
  exact h
theorem stk_deep (k d : Nat) : Stk (deepC tk sf k d) := fun T q h => by
  rw [deepC] at h
  split at h
  · exact stk_take k T q h
  · exact stk_fail T q h
theorem stk_knw : Stk (knwC tk sf vf nm m) := fun T q h => by
  rw [knwC] at h
  split at h
  · exact stk_take 39 T q (stk_tell T _ h)
  · exact stk_take 39 T q h
theorem stk_loop {c1 c2 : Nat} {x1 x2 : Int32} {v : PS → PS} (hv : Stk v) : ∀ f, Stk (loopC tk sf c1 c2 x1 x2 v f)
  | 0 => fun _ _ h => h
  | f + 1 => fun T q h => by
    rw [loopC] at h
    split at h
    · exact stk_take _ T q (hv T _ (stk_step _ _ _ T _ (stk_loop hv f T _ h)))
    · split at h
      · exact stk_take _ T q (hv T _ (stk_step _ _ _ T _ (stk_loop hv f T _ h)))
      · exact h
theorem stk_loopD {c : Nat} {x : Int32} {v : PS → PS} (hv : Stk v) : ∀ f, Stk (loopD tk sf c x v f)
  | 0 => fun _ _ h => h
  | f + 1 => fun T q h => by
    rw [loopD] at h
    split at h
    · exact stk_take _ T q (hv T _ (stk_step _ _ _ T _ (stk_loopD hv f T _ h)))
    · exact h
theorem stk_prod {v : PS → PS} (hv : Stk v) : Stk (prodC tk sf v) := fun T q h => hv T q (stk_loop hv 400 T _ h)
theorem stk_sum {v : PS → PS} (hv : Stk v) : Stk (sumC tk sf v) := fun T q h => stk_prod hv T q (stk_loop (stk_prod hv) 400 T _ h)
theorem stk_both {v : PS → PS} (hv : Stk v) : Stk (bothC tk sf v) := fun T q h => hv T q (stk_loopD hv 400 T _ h)
theorem stk_test {v : PS → PS} (hv : Stk v) : Stk (testC tk sf v) := fun T q h => stk_both hv T q (stk_loopD (stk_both hv) 400 T _ h)
theorem stk_cho {d : Nat} {v : PS → PS} (hv : Stk v) : Stk (choC tk sf d v) := fun T q h => by
  rw [choC] at h
  split at h
  · exact stk_take _ T q (stk_deep _ _ T _ h)
  · exact stk_take _ T q (stk_deep _ _ T _ (stk_sum hv T _ (stk_take _ T _ (stk_sum hv T _ (stk_take _ T _ (stk_step _ _ _ T _ h))))))
theorem stk_abt {x : Int32} : Stk (abtC tk sf vf nm m x) := fun T q h => by
  rw [abtC] at h
  exact stk_take _ T q (stk_take _ T _ (stk_knw T _ (stk_step _ _ _ T _ h)))
theorem stk_valB {d : Nat} {v : PS → PS} (hv : Stk v) : Stk (valB tk sf vf nm m d v) := fun T q h => by
  rw [valB] at h
  split at h
  · exact stk_take _ T q (stk_step _ _ _ T _ h)
  split at h
  · exact stk_take _ T q (stk_step _ _ _ T _ h)
  split at h
  · exact stk_take _ T q (stk_step _ _ _ T _ h)
  split at h
  · exact stk_abt T q h
  split at h
  · exact stk_abt T q h
  split at h
  · exact stk_abt T q h
  split at h
  · split at h
    · exact stk_deep _ _ T q h
    · exact stk_deep _ _ T q (hv T _ (stk_step _ _ _ T _ h))
  split at h
  · split at h
    · exact stk_deep _ _ T q h
    · exact stk_deep _ _ T q (stk_sum hv T _ (stk_take _ T _ h))
  split at h
  · exact stk_cho hv T q h
  split at h
  · exact stk_cho hv T q h
  · exact stk_fail T q h
theorem stk_val : ∀ r d, Stk (valC tk sf vf nm m r d)
  | 0, _ => stk_valB stk_id
  | r + 1, d => stk_valB (stk_val r (d + 1))
theorem stk_cmp {v : PS → PS} (hv : Stk v) : Stk (cmpC tk sf v) := fun T q h => by
  rw [cmpC] at h
  split at h
  · exact stk_sum hv T q (stk_fail T _ h)
  · exact stk_sum hv T q (stk_take _ T _ (stk_sum hv T _ (stk_step _ _ _ T _ h)))
theorem stk_sglB {d : Nat} {v u : PS → PS} (hv : Stk v) (hu : Stk u) : Stk (sglB tk sf vf nm m d v u) := fun T q h => by
  rw [sglB] at h
  split at h
  · split at h
    · exact stk_deep _ _ T q h
    · exact stk_deep _ _ T q (hu T _ (stk_step _ _ _ T _ h))
  split at h
  · split at h
    · exact stk_deep _ _ T q h
    · exact stk_deep _ _ T q (stk_test hu T _ (stk_take _ T _ h))
  split at h
  · exact stk_take _ T q (stk_knw T _ (stk_knw T _ (stk_step _ _ _ T _ h)))
  split at h
  · exact stk_take _ T q (stk_knw T _ (stk_step _ _ _ T _ h))
  · exact stk_cmp hv T q h
theorem stk_sgl : ∀ r d, Stk (sglC tk sf vf nm m r d)
  | 0, d => stk_sglB (stk_val 0 d) stk_id
  | r + 1, d => stk_sglB (stk_val (r + 1) d) (stk_sgl r (d + 1))
theorem stk_ord : Stk (fun q => (ordC tk sf vf nm m q).1) := fun T q h => by
  have h : Fz T (ordC tk sf vf nm m q).1 := h
  rw [ordC] at h
  split at h
  · dsimp only at h
    have h1 := stk_sum (stk_val 8 0) T _ h
    have h2 := stk_take 6 T _ h1
    have h3 := stk_sum (stk_val 8 0) T _ h2
    have h4 := stk_take 5 T _ h3
    exact stk_take 4 T q (stk_knw T _ h4)
  split at h
  · dsimp only at h
    exact stk_take 7 T q (stk_knw T _ h)
  · dsimp only at h
    have h1 := stk_sum (stk_val 8 0) T _ h
    have h2 := stk_take 9 T _ h1
    exact stk_take 8 T q (stk_knw T _ h2)
theorem stk_lawT {u : Nat} : Stk (lawT tk sf u) := fun T q h => by
  rw [lawT] at h
  split at h
  · exact stk_take _ T q h
  · exact stk_take _ T q (stk_tell T _ h)
theorem stk_lawW : Stk (lawW tk sf vf nm m) := fun T q h => by
  rw [lawW] at h
  split at h
  · exact stk_take _ T q (stk_test (stk_sgl 8 0) T _ h)
  · exact h
theorem stk_law {u : Nat} : Stk (fun q => (lawC tk sf vf nm m u q).1) := fun T q h => by
  have h : Fz T (lawC tk sf vf nm m u q).1 := h
  rw [lawC, lawE] at h
  dsimp only at h
  have h1 := stk_lawW T _ h
  exact stk_lawT T q (stk_ord T _ h1)
theorem stk_houA : Stk (houA tk sf vf nm m) := fun T q h => by
  rw [houA] at h
  split at h
  · split at h
    · exact stk_take _ T q h
    · exact stk_take _ T q (stk_tell T _ h)
  · exact stk_take _ T q (stk_tell T _ h)
theorem stk_houD : Stk (houD tk sf vf) := fun T q h => by
  rw [houD] at h
  split at h
  · exact stk_take _ T q h
  · exact stk_take _ T q (stk_tell T _ h)
/-- numbers are numbers -/
def NumOk (tk : Nat → Nat) (vf : Nat → Int64) (T : Nat) : Prop := ∀ i, i ≤ T → tk i = 40 → ∃ n : Nat, n < 1000000 ∧ vf i = Int64.ofNat n
theorem houB_in {T : Nat} {bP : Nat → Int32} {q : PS} (hv : NumOk tk vf T) (h : Fz T (houB tk sf vf bP m q)) : Fz T q ∧ ∃ p, p ≤ 99 ∧ (valT tk vf 40 q).toInt32 = nI p := by
  rw [houB] at h
  by_cases c : 99 < valT tk vf 40 q
  · rw [if_pos c] at h; exact absurd h (tell_no (by decide))
  · rw [if_neg c] at h
    have h2 : Fz T (takeC tk sf 40 q) := by
      split at h
      · exact absurd h (tell_no (by decide))
      · exact h
    have h3 := stk_take 40 T q h2
    refine ⟨h3, ?_⟩
    obtain ⟨i, b, e, a, r⟩ := q
    rw [valT] at c ⊢
    by_cases d : nw tk i b = 40
    · rw [if_pos d] at c ⊢
      have d2 : tk i = 40 := by
        cases b
        · exact d
        · exact absurd (show (42 : Nat) = 40 from d) (by decide)
      obtain ⟨n, n1, n2⟩ := hv i h3.2 d2
      rw [n2] at c ⊢
      have c2 : n ≤ 99 := by
        rcases Nat.lt_or_ge 99 n with z | z
        · exact absurd (by rw [Int64.lt_iff_toInt_lt, Int64.toInt_ofNat_of_lt (by omega)]; have e9 : (99 : Int64).toInt = 99 := rfl; omega) c
        · exact z
      exact ⟨n, c2, Int64.toInt32_ofNat'⟩
    · rw [if_neg d]
      exact ⟨0, by decide, rfl⟩
/-- one line -/
theorem line_in {T u : Nat} {q : PS} {nm : Nat → Int64} {bP bH l0 l1 l2 l3 l4 l5 : Nat → Int32} (hv : NumOk tk vf T) (h : Fz T (lineC tk sf vf (q, m, nm, bP, bH, u, l0, l1, l2, l3, l4, l5)).1) (hP : Fz T q → Pok m bP) : Fz T q ∧ Pok (lineC tk sf vf (q, m, nm, bP, bH, u, l0, l1, l2, l3, l4, l5)).2.1 (lineC tk sf vf (q, m, nm, bP, bH, u, l0, l1, l2, l3, l4, l5)).2.2.2.1 := by
  unfold lineC at h ⊢
  dsimp only at h ⊢
  by_cases c : nowC tk q = 0
  · rw [if_pos c] at h ⊢
    dsimp only at h ⊢
    have h1 := stk_take 28 T _ h
    rw [houC, houH, houF, houG] at h1
    dsimp only at h1
    have h2 := stk_take 2 T _ (stk_houD T _ h1)
    obtain ⟨h3, p, p1, p2⟩ := houB_in hv h2
    have h5 := stk_take 1 T _ h3
    have h6 := stk_houA T _ h5
    have h4 := stk_take 0 T _ h6
    refine ⟨h4, ?_⟩
    have hp := hP h4
    have ep : (houC tk sf vf nm m bP q).2.2.1.toInt32 = nI p := by
      rw [houC, houH, houF, houG]
      dsimp only
      exact p2
    rw [ep, inc, updC]
    by_cases d : m < 12
    · rw [if_pos d, if_pos d]
      intro i hi
      by_cases e : i = m
      · subst e; rw [upd_s]; exact ⟨p, p1, rfl⟩
      · rw [upd_n e]; exact hp i (by omega)
    · rw [if_neg d, if_neg d]; exact hp
  · rw [if_neg c] at h ⊢
    dsimp only at h ⊢
    have h0 := stk_take 28 T _ h
    have h1 : Fz T q := stk_law T q h0
    exact ⟨h1, hP h1⟩
theorem read_in {T : Nat} (hv : NumOk tk vf T) : ∀ (f : Nat) (r : RS), (Fz T r.1 → Pok r.2.1 r.2.2.2.1) → Fz T (readR tk sf vf f r).1 → Pok (readR tk sf vf f r).2.1 (readR tk sf vf f r).2.2.2.1
  | 0, _, hP, h => hP h
  | f + 1, r, hP, h => by
    rw [readR] at h ⊢
    split at h
    · rename_i c
      rw [if_pos c]; exact hP h
    · rename_i c
      rw [if_neg c]
      split at h
      · rename_i d
        rw [if_pos d]; exact hP h
      · rename_i d
        rw [if_neg d]
        obtain ⟨q, m, nm, bP, bH, u, l0, l1, l2, l3, l4, l5⟩ := r
        exact read_in hv f _ (fun h9 => (line_in hv h9 hP).2) h
end
theorem kw40 {v : Int64} : kwO v ≠ some 40 := fun h => by
  obtain ⟨-, h3, h2⟩ := fstN_spec h
  have h4 := h2 24 (by decide)
  change ((0 : Int64) == v) = true at h3
  change ((0 : Int64) == v) = false at h4
  rw [h4] at h3
  cases h3
theorem wd40 {tz s : Nat} {tb : Nat → Int32} (h : wdK tz tb s = 40) : False := by
  unfold wdK at h
  split at h
  · cases e : kwO (wVal tz tb s (wdL tz tb s)) with
    | none => rw [e] at h; exact absurd h (by decide)
    | some k =>
      rw [e] at h
      have h2 : k = 40 := h
      subst h2
      exact kw40 e
  · exact absurd h (by decide)
theorem sym40 (b : Int32) : symK b ≠ 40 := by
  unfold symK
  repeat' split
  all_goals decide
theorem sy40 {b nx : Int32} (h : syK b nx = 40) : False := by
  unfold syK at h
  by_cases c1 : nx = 61 ∧ b = 60
  · rw [if_pos c1] at h; exact absurd h (by decide)
  · rw [if_neg c1] at h
    by_cases c2 : nx = 61 ∧ b = 62
    · rw [if_pos c2] at h; exact absurd h (by decide)
    · rw [if_neg c2] at h
      exact sym40 b h
theorem num_tk {tz : Nat} {tb : Nat → Int32} {vf0 : Nat → Int64} : NumOk (tkT tz tb) (vfF tz tb vf0 (tL tz tb + 1)) (tL tz tb) := by
  intro i hi h
  rw [vfF_at (by omega)]
  rw [tkT] at h
  unfold tkK at h
  unfold tkV
  by_cases h1 : sgN tz tb (stN tz tb i) = -1
  · rw [if_pos h1] at h; exact absurd h (by decide)
  rw [if_neg h1] at h ⊢
  by_cases h2 : i = 400
  · rw [if_pos h2] at h; exact absurd h (by decide)
  rw [if_neg h2] at h ⊢
  by_cases h3 : isLet (sgN tz tb (stN tz tb i)) = true
  · exfalso
    rw [if_pos h3] at h
    exact wd40 h
  rw [if_neg h3] at h ⊢
  by_cases h4 : isDig (sgN tz tb (stN tz tb i)) = true
  · rw [if_pos h4] at h ⊢
    unfold nmK at h
    unfold nmV
    by_cases h5 : nmL tz tb (stN tz tb i) ≤ 6
    · rw [if_pos h5]
      obtain ⟨n, n1, -, n3⟩ := num_ex (m := tz) (tb := tb) (s := stN tz tb i) _ h5 (fun j hj => runL_in (q := fun p => isDig (sgN tz tb p)) hj)
      refine ⟨n, Nat.lt_of_lt_of_le n1 ?_, n3⟩
      exact Nat.le_trans (Nat.pow_le_pow_right (by decide) h5) (by decide)
    · rw [if_neg h5] at h; exact absurd h (by decide)
  · exfalso
    rw [if_neg h4] at h
    exact sy40 h
theorem fill_cc {a b c d : Nat → Int32} {m : Nat} (e : ∀ k, k < m → a k = b k) : fillN a d m = fillN (fillN b c m) d m := by
  funext i
  by_cases h : i < m
  · rw [fillN_in h, fillN_in h, fillN_in h, e i h]
  · rw [fillN_out (by omega), fillN_out (by omega)]
theorem LawN.cong {o o2 dz bg en : Nat → Int32} {S y : Nat} {z0 : Int32} {c0 c1 c2 c3 : Nat} (h : LawN o dz bg en S y z0 c0 c1 c2 c3) (e : ∀ r, r < S → o2 r = o r) : LawN o2 dz bg en S y z0 c0 c1 c2 c3 := by
  obtain ⟨l01, l12, l23, lS, lb0, le0, lsg, lk⟩ := h
  refine ⟨l01, l12, l23, lS, lb0, le0, lsg.imp id (fun z => z.cong (fun r _ h2 => e r (by omega))), ?_⟩
  rcases lk with ⟨a1, a2, a3, a4, a5, a6, a7, a8⟩ | a | ⟨a1, a2, a3, a4, a5⟩
  · exact Or.inl ⟨a1, a2, a3, a4, a5, a6, a7.cong (fun r _ h2 => e r (by omega)), a8.cong (fun r _ h2 => e r (by omega))⟩
  · exact Or.inr (Or.inl a)
  · exact Or.inr (Or.inr ⟨a1, a2, a3, a4, a5.cong (fun r _ h2 => e r (by omega))⟩)

