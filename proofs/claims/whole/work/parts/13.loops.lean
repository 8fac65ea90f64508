/-! Loops of Jd. -/
theorem J_for {Z : GZ} {X : CX} {R : Room} {nL : Nat} {Q : State → Prop} {rc rs pc : Nat} (lvf : Nat → List (Nat × Value)) (wsf : Nat → va_W) (N k0 : Nat) (hk : k0 ≤ N) (hx : Jd Z X R nL Q rc rs pc (lvf N) [] (wsf N))
    (hs : ∀ k, k0 ≤ k → k < N → Jd Z X R nL Q rc rs pc (lvf (k + 1)) [] (wsf (k + 1)) → Jd Z X R nL Q rc rs pc (lvf k) [] (wsf k)) : Jd Z X R nL Q rc rs pc (lvf k0) [] (wsf k0) := by
  have h : ∀ j k, k + j = N → k0 ≤ k → Jd Z X R nL Q rc rs pc (lvf k) [] (wsf k) := by
    intro j
    induction j with
    | zero => intro k h1 h2; have e : k = N := by omega
              subst e; exact hx
    | succ j ih => intro k h1 h2; exact hs k h2 (by omega) (ih (k + 1) (by omega) (by omega))
  exact h (N - k0) k0 (by omega) (Nat.le_refl _)
theorem J_forI {Z : GZ} {X : CX} {R : Room} {nL : Nat} {Q : State → Prop} {rc rs pc : Nat} {σ : Type} (lvf : Nat → σ → List (Nat × Value)) (wsf : Nat → σ → va_W) (I : Nat → σ → Prop) (N k0 : Nat) (s0 : σ) (hk : k0 ≤ N) (h0 : I k0 s0) (hx : ∀ s, I N s → Jd Z X R nL Q rc rs pc (lvf N s) [] (wsf N s))
    (hs : ∀ k s, k0 ≤ k → k < N → I k s → (∀ s2, I (k + 1) s2 → Jd Z X R nL Q rc rs pc (lvf (k + 1) s2) [] (wsf (k + 1) s2)) → Jd Z X R nL Q rc rs pc (lvf k s) [] (wsf k s)) : Jd Z X R nL Q rc rs pc (lvf k0 s0) [] (wsf k0 s0) := by
  have h : ∀ j k s, k + j = N → k0 ≤ k → I k s → Jd Z X R nL Q rc rs pc (lvf k s) [] (wsf k s) := by
    intro j
    induction j with
    | zero => intro k s h1 h2 h3; have e : k = N := by omega
              subst e; exact hx s h3
    | succ j ih => intro k s h1 h2 h3; exact hs k s h2 (by omega) h3 (fun s2 h4 => ih (k + 1) s2 (by omega) (by omega) h4)
  exact h (N - k0) k0 s0 (by omega) (Nat.le_refl _) h0
theorem J_whl {Z : GZ} {X : CX} {R : Room} {nL : Nat} {Q : State → Prop} {rc rs pc : Nat} {σ : Type} (lvf : σ → List (Nat × Value)) (wsf : σ → va_W) (I : σ → Prop) (μ : σ → Nat) (s0 : σ) (h0 : I s0)
    (hs : ∀ s, I s → (∀ s2, I s2 → μ s2 < μ s → Jd Z X R nL Q rc rs pc (lvf s2) [] (wsf s2)) → Jd Z X R nL Q rc rs pc (lvf s) [] (wsf s)) : Jd Z X R nL Q rc rs pc (lvf s0) [] (wsf s0) := by
  have h : ∀ n s, μ s < n → I s → Jd Z X R nL Q rc rs pc (lvf s) [] (wsf s) := by
    intro n
    induction n with
    | zero => intro s h1; omega
    | succ n ih => intro s h1 h2; exact hs s h2 (fun s2 h3 h4 => ih s2 (by omega) h3)
  exact h (μ s0 + 1) s0 (Nat.lt_succ_self _) h0
/-- f 0, .., f (k - 1), joined, added -/
def orN (f : Nat → Int32) : Nat → Int32
  | 0 => 0
  | k + 1 => orN f k ||| f k
def sumN (f : Nat → Int32) : Nat → Int32
  | 0 => 0
  | k + 1 => sumN f k + f k
theorem orN_cong {f g : Nat → Int32} : ∀ {k : Nat}, (∀ i, i < k → f i = g i) → orN f k = orN g k
  | 0, _ => rfl
  | k + 1, h => by rw [orN, orN, orN_cong (fun i hi => h i (by omega)), h k (by omega)]
theorem sumN_cong {f g : Nat → Int32} : ∀ {k : Nat}, (∀ i, i < k → f i = g i) → sumN f k = sumN g k
  | 0, _ => rfl
  | k + 1, h => by rw [sumN, sumN, sumN_cong (fun i hi => h i (by omega)), h k (by omega)]
/-- f below k, g from k on -/
def fillN {α : Type} (f g : Nat → α) (k : Nat) : Nat → α := fun i => if i < k then f i else g i
theorem fillN_0 {α : Type} (f g : Nat → α) : fillN f g 0 = g := by funext i; simp [fillN]
theorem fillN_s (f g : Nat → Int32) (k : Nat) : upd (fillN f g k) k (f k) = fillN f g (k + 1) := by
  funext i
  by_cases h : i = k
  · subst h; simp [fillN, upd]
  · have h2 : i < k + 1 ↔ i < k := by omega
    simp [fillN, upd, h, h2]
theorem fillN_in {α : Type} {f g : Nat → α} {k i : Nat} (h : i < k) : fillN f g k i = f i := by simp [fillN, h]
theorem fillN_out {α : Type} {f g : Nat → α} {k i : Nat} (h : k ≤ i) : fillN f g k i = g i := by simp [fillN, Nat.not_lt.mpr h]
