/-- a settled step: the plan's (od wi al), the class's (o g j), N houses -/
def RowS (N : Nat) (od wi al o g j : Int32) : Prop :=
  ∃ c, c ≤ 22 ∧ o = nI c ∧ od = omN c ∧ (c = 0 → wi = g) ∧ ((c = 3 ∨ c = 4 ∨ c = 5 ∨ c = 6 ∨ c = 7) → wi = g ∧ ∃ h, h < N ∧ g = nI h) ∧ (c = 6 → al = j ∧ ∃ h, h < N ∧ j = nI h)
theorem om_in : ∀ c : Fin 23, inX (omN c.1) 12 14 = (c.1 == 3 || c.1 == 4 || c.1 == 5) := by decide
theorem om_17 : ∀ c : Fin 23, (omN c.1 = 17) = (c.1 = 6) := by decide
theorem om_18 : ∀ c : Fin 23, (omN c.1 = 18) = (c.1 = 7) := by decide
section
variable {va nm : Nat → Int64} {m i2 : Nat} {tq : Nat → Nat} {me wo : Nat → Int32} {od wi al o g j : Int32}
theorem row_kind (h : RowM va nm m tq me i2 od wi al o g j) (hw : ∀ k, k < i2 → me k = 6 → wo k = hnF nm (va k) m ∧ hnF nm (va k) m ≠ -1) :
    (od = 17 ∧ ∃ k k2, k < i2 ∧ k2 < i2 ∧ wi = nI k ∧ al = nI k2 ∧ RowS m od (wo k) (wo k2) o g j) ∨
    ((od = 12 ∨ od = 13 ∨ od = 14 ∨ od = 18) ∧ ∃ k, k < i2 ∧ wi = nI k ∧ ∀ al2, RowS m od (wo k) al2 o g j) ∨
    (od ≠ 17 ∧ od ≠ 18 ∧ inX od 12 14 = false ∧ ∀ al2, RowS m od wi al2 o g j) := by
  obtain ⟨c, h1, h2, h3, h4, h5, h6⟩ := h
  by_cases c6 : c = 6
  · left
    subst c6
    obtain ⟨k, k1, k2, k3, k4, k5⟩ := h5 (by omega)
    obtain ⟨n, n1, n2, n3, n4, n5⟩ := h6 rfl
    obtain ⟨w1, w2⟩ := hw k k1 k2
    obtain ⟨v1, v2⟩ := hw n n1 n2
    refine ⟨h3, k, n, k1, n1, k4, n4, 6, h1, h2, h3, fun q => by omega, fun _ => ⟨by rw [w1, k5], ?_⟩, fun _ => ⟨by rw [v1, n5], ?_⟩⟩
    · rw [k5]; exact hnF_lt w2
    · rw [n5]; exact hnF_lt v2
  · right
    by_cases c3 : c = 3 ∨ c = 4 ∨ c = 5 ∨ c = 7
    · left
      obtain ⟨k, k1, k2, k3, k4, k5⟩ := h5 (by omega)
      obtain ⟨w1, w2⟩ := hw k k1 k2
      refine ⟨?_, k, k1, k4, fun al2 => ⟨c, h1, h2, h3, fun q => by omega, fun _ => ⟨by rw [w1, k5], by rw [k5]; exact hnF_lt w2⟩, fun q => absurd q c6⟩⟩
      rcases c3 with q | q | q | q <;> subst q
      · exact Or.inl h3
      · exact Or.inr (Or.inl h3)
      · exact Or.inr (Or.inr (Or.inl h3))
      · exact Or.inr (Or.inr (Or.inr h3))
    · right
      have q1 := om_17 ⟨c, by omega⟩
      have q2 := om_18 ⟨c, by omega⟩
      have q3 := om_in ⟨c, by omega⟩
      dsimp only at q1 q2 q3
      refine ⟨fun e => c6 (q1 ▸ (h3.symm.trans e)), fun e => c3 (by have : c = 7 := q2 ▸ (h3.symm.trans e); omega), ?_, fun al2 => ⟨c, h1, h2, h3, h4, fun q => by omega, fun q => absurd q c6⟩⟩
      rw [h3, q3]
      have a3 : ¬ c = 3 := fun e => c3 (by omega)
      have a4 : ¬ c = 4 := fun e => c3 (by omega)
      have a5 : ¬ c = 5 := fun e => c3 (by omega)
      simp [a3, a4, a5]
end
section
variable {fr : Nat → Int32} {va : Nat → Int64} {me : Nat → Int32} {k : Nat}
theorem p2S_0e {st : P2} {a : Int32} {r : Nat × (Nat → Int64) × (Nat → Int32) × (Nat → Int32) × Nat × (Nat → Int32) × (Nat → Int32)} (h : p2S fr va me k st = (0, a, r)) : st.1 = 0 := by
  obtain ⟨e, a1, r1⟩ := st
  by_cases z : e = 0
  · exact z
  · rw [p2S_frozen z] at h
    exact (Prod.mk.inj h).1
theorem p2S_mon {a a2 : Int32} {m m2 u u2 : Nat} {nm nm2 : Nat → Int64} {bP bP2 bH bH2 wh wh2 wo wo2 : Nat → Int32} (hm : m ≤ 12) (hu : u ≤ 16) (h : p2S fr va me k (0, a, m, nm, bP, bH, u, wh, wo) = (0, a2, m2, nm2, bP2, bH2, u2, wh2, wo2)) :
    a2 = a ∧ m2 ≤ 12 ∧ u2 ≤ 16 ∧ m ≤ m2 ∧ u ≤ u2 ∧ (me k = 1 → 1 ≤ m2) ∧ (me k = 4 → 1 ≤ u2) := by
  rw [p2S, if_pos rfl] at h
  by_cases e1 : me k = 1
  · rw [if_pos e1] at h
    split at h
    · split at h
      · obtain ⟨-, h1, h2, -, -, -, h6, -⟩ := by simpa only [Prod.mk.injEq] using h
        exact ⟨h1.symm, by omega, by omega, by omega, by omega, fun _ => by omega, fun q => by rw [e1] at q; exact absurd q (by decide)⟩
      · exact absurd (Prod.mk.inj h).1 (by decide)
    · exact absurd (Prod.mk.inj h).1 (by decide)
  rw [if_neg e1] at h
  by_cases e2 : me k = 2
  · rw [if_pos e2] at h
    split at h
    · exact absurd (Prod.mk.inj h).1 (by decide)
    · split at h
      · exact absurd (Prod.mk.inj h).1 (by decide)
      · obtain ⟨-, h1, h2, -, -, -, h6, -⟩ := by simpa only [Prod.mk.injEq] using h
        exact ⟨h1.symm, by omega, by omega, by omega, by omega, fun q => absurd q e1, fun q => by rw [e2] at q; exact absurd q (by decide)⟩
  rw [if_neg e2] at h
  by_cases e3 : me k = 3
  · rw [if_pos e3] at h
    split at h
    · obtain ⟨-, h1, h2, -, -, -, h6, -⟩ := by simpa only [Prod.mk.injEq] using h
      exact ⟨h1.symm, by omega, by omega, by omega, by omega, fun q => absurd q e1, fun q => by rw [e3] at q; exact absurd q (by decide)⟩
    · exact absurd (Prod.mk.inj h).1 (by decide)
  rw [if_neg e3] at h
  by_cases e4 : me k = 4
  · rw [if_pos e4] at h
    split at h
    · obtain ⟨-, h1, h2, -, -, -, h6, -⟩ := by simpa only [Prod.mk.injEq] using h
      exact ⟨h1.symm, by omega, by omega, by omega, by omega, fun q => absurd q e1, fun _ => by omega⟩
    · exact absurd (Prod.mk.inj h).1 (by decide)
  rw [if_neg e4] at h
  by_cases e5 : me k = 5
  · rw [if_pos e5] at h
    split at h
    · exact absurd (Prod.mk.inj h).1 (by decide)
    · obtain ⟨-, h1, h2, -, -, -, h6, -⟩ := by simpa only [Prod.mk.injEq] using h
      exact ⟨h1.symm, by omega, by omega, by omega, by omega, fun q => absurd q e1, fun q => absurd q e4⟩
  rw [if_neg e5] at h
  by_cases e6 : me k = 6
  · rw [if_pos e6] at h
    split at h
    · exact absurd (Prod.mk.inj h).1 (by decide)
    · obtain ⟨-, h1, h2, -, -, -, h6, -⟩ := by simpa only [Prod.mk.injEq] using h
      exact ⟨h1.symm, by omega, by omega, by omega, by omega, fun q => absurd q e1, fun q => absurd q e4⟩
  rw [if_neg e6] at h
  obtain ⟨-, h1, h2, -, -, -, h6, -⟩ := by simpa only [Prod.mk.injEq] using h
  exact ⟨h1.symm, by omega, by omega, by omega, by omega, fun q => absurd q e1, fun q => absurd q e4⟩
theorem p2_inv {a0 : Int32} {nm0 : Nat → Int64} {bP0 bH0 wh0 wo0 : Nat → Int32} : ∀ n {a : Int32} {m u : Nat} {nm : Nat → Int64} {bP bH wh wo : Nat → Int32}, p2N fr va me 0 (0, a0, 0, nm0, bP0, bH0, 0, wh0, wo0) n = (0, a, m, nm, bP, bH, u, wh, wo) →
    a = a0 ∧ m ≤ 12 ∧ u ≤ 16 ∧ ((∃ j, j < n ∧ me j = 1) → 1 ≤ m) ∧ ((∃ j, j < n ∧ me j = 4) → 1 ≤ u)
  | 0, a, m, u, nm, bP, bH, wh, wo, h => by
    obtain ⟨-, h1, h2, -, -, -, h6, -⟩ := by simpa only [p2N, Prod.mk.injEq] using h
    exact ⟨h1.symm, by omega, by omega, fun ⟨j, q, _⟩ => absurd q (Nat.not_lt_zero _), fun ⟨j, q, _⟩ => absurd q (Nat.not_lt_zero _)⟩
  | n + 1, a, m, u, nm, bP, bH, wh, wo, h => by
    rw [p2N] at h
    have h0 := p2S_0e h
    cases hs : p2N fr va me 0 (0, a0, 0, nm0, bP0, bH0, 0, wh0, wo0) n with
    | mk e1 r1 =>
      obtain ⟨a1, m1, nm1, bP1, bH1, u1, wh1, wo1⟩ := r1
      rw [hs] at h h0
      have h0' : e1 = 0 := h0
      subst h0'
      obtain ⟨g1, g2, g3, g4, g5⟩ := p2_inv n hs
      obtain ⟨f1, f2, f3, f4, f5, f6, f7⟩ := p2S_mon g2 g3 h
      refine ⟨f1.trans g1, f2, f3, fun ⟨j, q, z⟩ => ?_, fun ⟨j, q, z⟩ => ?_⟩
      · rcases Nat.lt_or_ge j n with c | c
        · have := g4 ⟨j, c, z⟩; omega
        · have e : j = 0 + n := by omega
          subst e
          exact f6 z
      · rcases Nat.lt_or_ge j n with c | c
        · have := g5 ⟨j, c, z⟩; omega
        · have e : j = 0 + n := by omega
          subst e
          exact f7 z
end
/-- a plan and a book tell the same -/
def PlanOk (m u s : Nat) (hn : Nat → Int64) (ha hh dz wh bg en od wi al : Nat → Int32) (nm : Nat → Int64) (bP bH o g j l0 l1 l2 l3 l4 l5 : Nat → Int32) : Prop :=
  m ≤ 12 ∧ u ≤ 16 ∧ s ≤ 400 ∧ (∀ k, k < m → hn k = nm k ∧ ha k = bP k ∧ hh k = bH k) ∧
  (∀ k, k < u → wh k = l1 k ∧ LawOk o dz bg en s k (l0 k) (l2 k) (l3 k) (l4 k) (l5 k) ∧ ∃ h, h < m ∧ l1 k = nI h) ∧
  (∀ r, r < s → RowS m (od r) (wi r) (al r) (o r) (g r) (j r))
/-- reading: the class's end X and the model's answer -/
def ReadK (X : RS) (e2 ea ea2 hs ls mn : Int32) (hn : Nat → Int64) (ha hh dz wh bg en od wi al : Nat → Int32) : Prop :=
  (e2 ≠ 0 ∧ X.1.2.2.1 = e2 ∧ X.1.2.2.2.1 = ea2) ∨
  (e2 = 0 ∧ ea2 = ea ∧ ∃ (i : Nat) (b : Bool) (a : Int32) (s : Nat) (o g j : Nat → Int32) (m : Nat) (nm : Nat → Int64) (bP bH : Nat → Int32) (u : Nat) (l0 l1 l2 l3 l4 l5 : Nat → Int32), X = ((i, b, 0, a, s, o, g, j), m, nm, bP, bH, u, l0, l1, l2, l3, l4, l5) ∧ hs = nI m ∧ ls = nI u ∧ mn = nI s ∧ PlanOk m u s hn ha hh dz wh bg en od wi al nm bP bH o g j l0 l1 l2 l3 l4 l5)
theorem mk_06 {x : Int32} {P : Prop} (h : x = 0 ∨ x = 4 ∨ (mrk x ∧ P)) (h0 : ¬ x = 0) (h1 : ¬ x = 1) (h2 : ¬ x = 2) (h3 : ¬ x = 3) (h4 : ¬ x = 4) (h5 : ¬ x = 5) : x = 6 := by
  rcases h with q | q | ⟨q | q | q | q | q, -⟩
  · exact absurd q h0
  · exact absurd q h4
  · exact absurd q h1
  · exact absurd q h2
  · exact absurd q h3
  · exact absurd q h5
  · exact q
theorem mk_p {x : Int32} {P : Prop} (h : x = 0 ∨ x = 4 ∨ (mrk x ∧ P)) (h0 : x ≠ 0) (h4 : x ≠ 4) : P := by
  rcases h with q | q | ⟨-, q⟩
  · exact absurd q h0
  · exact absurd q h4
  · exact q

