/-! Loops of Jd. -/
theorem J_for {Z : GZ} {X : CX} {R : Room} {nL : Nat} {Q : State → Prop} {rc rs pc : Nat} (lvf : Nat → List (Nat × Value)) (wsf : Nat → va_W) (N k0 : Nat) (hk : k0 ≤ N) (hx : Jd Z X R nL Q rc rs pc (lvf N) [] (wsf N))
    (hs : ∀ k, k0 ≤ k → k < N → Jd Z X R nL Q rc rs pc (lvf (k + 1)) [] (wsf (k + 1)) → Jd Z X R nL Q rc rs pc (lvf k) [] (wsf k)) : Jd Z X R nL Q rc rs pc (lvf k0) [] (wsf k0) := by
  have h : ∀ j k, k + j = N → k0 ≤ k → Jd Z X R nL Q rc rs pc (lvf k) [] (wsf k) := by
    intro j
    induction j with
    | zero => intro k h1 h2; have e : k = N := by omega
              subst e; exact hx
    | succ j ih => intro k h1 h2; exact hs k h2 (by omega) (ih (k + 1) (by omega) (by omega))
  exact h (N - k0) k0 (by omega) (Nat.le_refl _)
theorem J_forI {Z : GZ} {X : CX} {R : Room} {nL : Nat} {Q : State → Prop} {rc rs pc : Nat} {σ : Type} (lvf : Nat → σ → List (Nat × Value)) (wsf : Nat → σ → va_W) (I : Nat → σ → Prop) (N k0 : Nat) (s0 : σ) (hk : k0 ≤ N) (h0 : I k0 s0) (hx : ∀ s, I N s → Jd Z X R nL Q rc rs pc (lvf N s) [] (wsf N s))
    (hs : ∀ k s, k0 ≤ k → k < N → I k s → (∀ s2, I (k + 1) s2 → Jd Z X R nL Q rc rs pc (lvf (k + 1) s2) [] (wsf (k + 1) s2)) → Jd Z X R nL Q rc rs pc (lvf k s) [] (wsf k s)) : Jd Z X R nL Q rc rs pc (lvf k0 s0) [] (wsf k0 s0) := by
  have h : ∀ j k s, k + j = N → k0 ≤ k → I k s → Jd Z X R nL Q rc rs pc (lvf k s) [] (wsf k s) := by
    intro j
    induction j with
    | zero => intro k s h1 h2 h3; have e : k = N := by omega
              subst e; exact hx s h3
    | succ j ih => intro k s h1 h2 h3; exact hs k s h2 (by omega) h3 (fun s2 h4 => ih (k + 1) s2 (by omega) (by omega) h4)
  exact h (N - k0) k0 s0 (by omega) (Nat.le_refl _) h0
theorem J_whl {Z : GZ} {X : CX} {R : Room} {nL : Nat} {Q : State → Prop} {rc rs pc : Nat} {σ : Type} (lvf : σ → List (Nat × Value)) (wsf : σ → va_W) (I : σ → Prop) (μ : σ → Nat) (s0 : σ) (h0 : I s0)
    (hs : ∀ s, I s → (∀ s2, I s2 → μ s2 < μ s → Jd Z X R nL Q rc rs pc (lvf s2) [] (wsf s2)) → Jd Z X R nL Q rc rs pc (lvf s) [] (wsf s)) : Jd Z X R nL Q rc rs pc (lvf s0) [] (wsf s0) := by
  have h : ∀ n s, μ s < n → I s → Jd Z X R nL Q rc rs pc (lvf s) [] (wsf s) := by
    intro n
    induction n with
    | zero => intro s h1; omega
    | succ n ih => intro s h1 h2; exact hs s h2 (fun s2 h3 h4 => ih s2 (by omega) h3)
  exact h (μ s0 + 1) s0 (Nat.lt_succ_self _) h0
/-- f 0, .., f (k - 1), joined, added -/
def orN (f : Nat → Int32) : Nat → Int32
  | 0 => 0
  | k + 1 => orN f k ||| f k
def sumN (f : Nat → Int32) : Nat → Int32
  | 0 => 0
  | k + 1 => sumN f k + f k
theorem orN_cong {f g : Nat → Int32} : ∀ {k : Nat}, (∀ i, i < k → f i = g i) → orN f k = orN g k
  | 0, _ => rfl
  | k + 1, h => by rw [orN, orN, orN_cong (fun i hi => h i (by omega)), h k (by omega)]
theorem sumN_cong {f g : Nat → Int32} : ∀ {k : Nat}, (∀ i, i < k → f i = g i) → sumN f k = sumN g k
  | 0, _ => rfl
  | k + 1, h => by rw [sumN, sumN, sumN_cong (fun i hi => h i (by omega)), h k (by omega)]
/-- f below k, g from k on -/
def fillN {α : Type} (f g : Nat → α) (k : Nat) : Nat → α := fun i => if i < k then f i else g i
theorem fillN_0 {α : Type} (f g : Nat → α) : fillN f g 0 = g := by funext i; simp [fillN]
theorem fillN_s (f g : Nat → Int32) (k : Nat) : upd (fillN f g k) k (f k) = fillN f g (k + 1) := by
  funext i
  by_cases h : i = k
  · subst h; simp [fillN, upd]
  · have h2 : i < k + 1 ↔ i < k := by omega
    simp [fillN, upd, h, h2]
theorem fillN_in {α : Type} {f g : Nat → α} {k i : Nat} (h : i < k) : fillN f g k i = f i := by simp [fillN, h]
theorem fillN_out {α : Type} {f g : Nat → α} {k i : Nat} (h : k ≤ i) : fillN f g k i = g i := by simp [fillN, Nat.not_lt.mpr h]
theorem J_forP {Z : GZ} {X : CX} {R : Room} {nL : Nat} {Q : State → Prop} {rc rs pc : Nat} (lvf : Nat → List (Nat × Value)) (wsf : Nat → va_W) (I : Nat → Prop) (N k0 : Nat) (hk : k0 ≤ N) (h0 : I k0) (hx : I N → Jd Z X R nL Q rc rs pc (lvf N) [] (wsf N))
    (hs : ∀ k, k0 ≤ k → k < N → I k → (I (k + 1) → Jd Z X R nL Q rc rs pc (lvf (k + 1)) [] (wsf (k + 1))) → Jd Z X R nL Q rc rs pc (lvf k) [] (wsf k)) : Jd Z X R nL Q rc rs pc (lvf k0) [] (wsf k0) :=
  J_forI (σ := Unit) (fun k _ => lvf k) (fun k _ => wsf k) (fun k _ => I k) N k0 () hk h0 (fun _ h => hx h) (fun k _ h1 h2 h3 ih => hs k h1 h2 h3 (fun h4 => ih () h4))
/-- the first place below m with p -/
def fstN (p : Nat → Bool) : Nat → Option Nat
  | 0 => none
  | k + 1 => match fstN p k with
    | some i => some i
    | none => if p k then some k else none
theorem fstN_none {p : Nat → Bool} : ∀ {m : Nat}, (∀ i, i < m → p i = false) → fstN p m = none
  | 0, _ => rfl
  | k + 1, h => by rw [fstN, fstN_none (fun i hi => h i (by omega)), h k (by omega)]; rfl
theorem fstN_some {p : Nat → Bool} {i : Nat} : ∀ {m : Nat}, i < m → p i = true → (∀ j, j < i → p j = false) → fstN p m = some i
  | 0, h, _, _ => absurd h (Nat.not_lt_zero _)
  | k + 1, h, h1, h2 => by
    rcases Nat.lt_or_ge i k with q | q
    · rw [fstN, fstN_some q h1 h2]
    · have e : i = k := by omega
      subst e
      rw [fstN, fstN_none h2, h1]
      rfl
theorem fstN_spec {p : Nat → Bool} {i : Nat} : ∀ {m : Nat}, fstN p m = some i → i < m ∧ p i = true ∧ ∀ j, j < i → p j = false
  | 0, h => by cases h
  | k + 1, h => by
    rw [fstN] at h
    cases e : fstN p k with
    | some j =>
      rw [e] at h
      cases h
      obtain ⟨h1, h2, h3⟩ := fstN_spec e
      exact ⟨by omega, h2, h3⟩
    | none =>
      rw [e] at h
      by_cases hp : p k = true
      · simp only [hp, if_true] at h
        cases h
        refine ⟨Nat.lt_succ_self _, hp, fun j hj => ?_⟩
        cases hq : p j
        · rfl
        · exfalso
          have key : ∀ (m : Nat), fstN p m = none → ∀ j, j < m → p j = false := by
            intro m
            induction m with
            | zero => intro _ j hj; omega
            | succ m ih =>
              intro hm j hj
              rw [fstN] at hm
              cases e2 : fstN p m with
              | some x => rw [e2] at hm; cases hm
              | none =>
                rw [e2] at hm
                by_cases hp2 : p m = true
                · simp [hp2] at hm
                · rcases Nat.lt_or_ge j m with q | q
                  · exact ih e2 j q
                  · have : j = m := by omega
                    subst this
                    simpa using hp2
          rw [key _ e j hj] at hq
          cases hq
      · simp [hp] at h
theorem fstN_no {p : Nat → Bool} {m : Nat} (h : fstN p m = none) {j : Nat} (hj : j < m) : p j = false := by
  cases e : p j with
  | false => rfl
  | true =>
    obtain ⟨i, hi⟩ : ∃ i, fstN p m = some i := by
      have h9 : ∀ n, n ≤ m → (∀ i, i < n → p i = false) ∨ ∃ i, i < n ∧ p i = true ∧ ∀ j, j < i → p j = false := by
        intro n
        induction n with
        | zero => intro _; exact Or.inl (fun i hi => absurd hi (Nat.not_lt_zero _))
        | succ n ih =>
          intro hn
          rcases ih (by omega) with q | ⟨i, q1, q2⟩
          · cases e2 : p n with
            | true => exact Or.inr ⟨n, Nat.lt_succ_self _, e2, q⟩
            | false =>
              refine Or.inl (fun i hi => ?_)
              rcases Nat.lt_or_ge i n with z | z
              · exact q i z
              · have : i = n := by omega
                subst this; exact e2
          · exact Or.inr ⟨i, by omega, q2⟩
      rcases h9 m (Nat.le_refl _) with q | ⟨i, q1, q2, q3⟩
      · rw [q j hj] at e; cases e
      · exact ⟨i, fstN_some q1 q2 q3⟩
    rw [h] at hi
    cases hi
