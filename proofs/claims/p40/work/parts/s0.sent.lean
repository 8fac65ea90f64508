/-! What the law says of a street, in small numbers. -/
section
variable {n : Nat} {p h f t : Nat → Nat}
theorem shB_iff {b a k : Nat} : shB p h f t b a k = true ↔ ((k < 12 ∧ p a < p b) ∨ (¬ k < 12 ∧ p b < p a)) ∧ (if p a ≤ p b then p b - p a else p a - p b) ≤ rcN h f t b k ∧ tlN h f t a k < (tlN h f t b k * spN k - 2 * (if p a ≤ p b then p b - p a else p a - p b)) / spN k := by
  unfold shB shD
  by_cases c : k < 12
  · rw [if_pos c]
    by_cases d : p a < p b
    · rw [if_pos (show p a ≤ p b by omega)]
      simp [c, d]
    · simp [c, d]
  · rw [if_neg c]
    by_cases d : p b < p a
    · rw [if_neg (show ¬ p a ≤ p b by omega)]
      simp [c, d]
    · simp [c, d]
theorem aw_sym {a b : Nat} : awN p a b = if p a ≤ p b then p b - p a else p a - p b := rfl
theorem shB_12 {b a : Nat} : shB p h f t b a 12 = false := by
  rw [← Bool.not_eq_true, shB_iff]
  rintro ⟨h1, h2, -⟩
  have e : rcN h f t b 12 = 0 := by
    rw [rcN, if_neg (by decide), show spN 12 = 0 from rfl, Nat.mul_zero]
  rw [e] at h2
  split at h2 <;> omega
theorem shB_irr {a k : Nat} : shB p h f t a a k = false := by
  rw [← Bool.not_eq_true, shB_iff]
  rintro ⟨h1, -⟩
  omega
theorem shB_asym {a b k : Nat} (hs : shB p h f t b a k = true) : shB p h f t a b k = false := by
  rw [← Bool.not_eq_true, shB_iff]
  rw [shB_iff] at hs
  rintro ⟨h1, -⟩
  have := hs.1
  omega
theorem shB_reach {a b k : Nat} (hs : shB p h f t b a k = true) : awN p a b ≤ rcN h f t b k := (shB_iff.mp hs).2.1
theorem shB_tall {a b k : Nat} (hs : shB p h f t b a k = true) : tlN h f t a k < tlN h f t b k := by
  obtain ⟨h1, h2, h3⟩ := shB_iff.mp hs
  have hd : 1 ≤ (if p a ≤ p b then p b - p a else p a - p b) := by split <;> omega
  rcases Nat.eq_zero_or_pos (spN k) with e | e
  · rw [e, Nat.div_zero] at h3
    exact absurd h3 (Nat.not_lt_zero _)
  · refine Nat.lt_of_lt_of_le h3 ?_
    rw [Nat.div_le_iff_le_mul_add_pred e, Nat.mul_comm]
    have : spN k * tlN h f t b k = tlN h f t b k * spN k := Nat.mul_comm _ _
    omega
theorem shB_dk (ok : SnOk n p h f t) {a b k : Nat} (ha : a < n) (hb : b < n) (hs : shB p h f t b a k = true) : dkN p h f t n a k = true := by
  rw [dkN_any ok ha]
  exact anyN_iff.mpr ⟨b, hb, hs⟩
theorem dk_ex (ok : SnOk n p h f t) {a k : Nat} (ha : a < n) (hd : dkN p h f t n a k = true) : ∃ b, b < n ∧ shB p h f t b a k = true := by
  rw [dkN_any ok ha] at hd
  exact anyN_iff.mp hd
theorem dk_12 (ok : SnOk n p h f t) {a : Nat} (ha : a < n) : dkN p h f t n a 12 = false := by
  rw [dkN_any ok ha]
  exact anyN_no (fun j _ => shB_12)
/-- the nearest -/
theorem nr_near {a k : Nat} : ∀ m {c}, (nrN p h f t a k m).1 = some c → shB p h f t c a k = true ∧ c < m ∧ (nrN p h f t a k m).2 = awN p a c ∧ ∀ b, b < m → shB p h f t b a k = true → awN p a c ≤ awN p a b
  | 0, c, q => by cases q
  | m + 1, c, q => by
    rw [nrN] at q ⊢
    by_cases z : shB p h f t m a k = true ∧ awN p a m < (nrN p h f t a k m).2
    · rw [if_pos z] at q ⊢
      cases q
      refine ⟨z.1, by omega, rfl, fun b hb hs => ?_⟩
      by_cases e : b = m
      · subst e; exact Nat.le_refl _
      · cases d : (nrN p h f t a k m).1 with
        | some c' =>
          obtain ⟨-, -, d3, d4⟩ := nr_near m d
          have := d4 b (by omega) hs
          omega
        | none =>
          have h9 : ∀ m', (nrN p h f t a k m').1 = none → ∀ b, b < m' → shB p h f t b a k = true → 100 ≤ awN p a b := by
            intro m'
            induction m' with
            | zero => intro _ b hb; exact absurd hb (Nat.not_lt_zero _)
            | succ m' ih =>
              intro e b hb hs
              have e2 : (nrN p h f t a k m').2 = 100 ∨ (nrN p h f t a k m').1 ≠ none := by
                have : ∀ m, (nrN p h f t a k m).1 = none → (nrN p h f t a k m).2 = 100 := by
                  intro m
                  induction m with
                  | zero => intro _; rfl
                  | succ m ih2 =>
                    intro e
                    rw [nrN] at e ⊢
                    split at e
                    · cases e
                    · rename_i z2
                      rw [if_neg z2]
                      exact ih2 e
                by_cases g : (nrN p h f t a k m').1 = none
                · exact Or.inl (this m' g)
                · exact Or.inr g
              rw [nrN] at e
              split at e
              · cases e
              · rename_i z2
                by_cases g : b = m'
                · subst g
                  rcases e2 with e2 | e2
                  · have : ¬ awN p a b < 100 := fun y => z2 ⟨hs, by rw [e2]; exact y⟩
                    omega
                  · exact absurd e e2
                · exact ih e b (by omega) hs
          have := h9 m d b (by omega) hs
          have := nrN_le p h f t a k m
          omega
    · rw [if_neg z] at q ⊢
      obtain ⟨c1, c2, c3, c4⟩ := nr_near m q
      refine ⟨c1, by omega, c3, fun b hb hs => ?_⟩
      by_cases e : b = m
      · subst e
        have : ¬ awN p a b < (nrN p h f t a k b).2 := fun y => z ⟨hs, y⟩
        omega
      · exact c4 b (by omega) hs
theorem cnN_mono {y z : Nat → Bool} : ∀ {m : Nat}, (∀ k, k < m → y k = true → z k = true) → cnN y m ≤ cnN z m
  | 0, _ => Nat.le_refl _
  | m + 1, h9 => by
    have ih := cnN_mono (m := m) (fun k hk => h9 k (by omega))
    rw [cnN_s, cnN_s]
    have := h9 m (by omega)
    cases c : y m
    · simp [b2n]; omega
    · rw [this c]; omega
theorem cnN_pos {y : Nat → Bool} : ∀ {m : Nat}, 0 < cnN y m ↔ ∃ k, k < m ∧ y k = true
  | 0 => by simp [cnN]
  | m + 1 => by
    rw [cnN_s]
    constructor
    · intro q
      by_cases c : y m = true
      · exact ⟨m, by omega, c⟩
      · rw [Bool.not_eq_true] at c
        rw [c] at q
        obtain ⟨k, h1, h2⟩ := (cnN_pos (y := y) (m := m)).mp (by simpa [b2n] using q)
        exact ⟨k, by omega, h2⟩
    · rintro ⟨k, h1, h2⟩
      by_cases c : k = m
      · subst c; rw [h2]; simp [b2n]
      · have := (cnN_pos (y := y) (m := m)).mpr ⟨k, by omega, h2⟩
        omega
/-- hours lost, over a whole day -/
theorem lo_24 (ok : SnOk n p h f t) {a : Nat} (ha : a < n) : loN p h f t n a = cnN (fun k => dkN p h f t n a k) 24 := (cnN_win (fun k _ hk => dkN_out ok ha hk)).symm
theorem lo_12 (ok : SnOk n p h f t) {a : Nat} (ha : a < n) : loN p h f t n a ≤ 12 := by
  have e1 := cnN_add (fun k => dkN p h f t n a (6 + k)) 6 7
  have e2 := cnN_add (fun j => dkN p h f t n a (6 + (6 + j))) 1 6
  have h1 := cnN_le (fun k => dkN p h f t n a (6 + k)) 6
  have h2 : cnN (fun j => dkN p h f t n a (6 + (6 + j))) 1 = 0 := by
    rw [cnN_s]
    show cnN _ 0 + b2n (dkN p h f t n a 12) = 0
    rw [dk_12 ok ha]
    rfl
  have h3 := cnN_le (fun j => dkN p h f t n a (6 + (6 + (1 + j)))) 6
  have e : loN p h f t n a = cnN (fun k => dkN p h f t n a (6 + k)) (6 + 7) := rfl
  have e3 : cnN (fun j => dkN p h f t n a (6 + (6 + j))) 7 = cnN (fun j => dkN p h f t n a (6 + (6 + j))) (1 + 6) := rfl
  omega
theorem lt_lo (ok : SnOk n p h f t) {a b : Nat} (ha : a < n) (hb : b < n) : ltN p h f t a b ≤ loN p h f t n a := by
  rw [lo_24 ok ha]
  exact cnN_mono (fun k _ hs => shB_dk ok ha hb hs)
theorem lt_self {a : Nat} : ltN p h f t a a = 0 := cnN_no (fun k _ => shB_irr)
theorem lo_pos (ok : SnOk n p h f t) {a : Nat} (ha : a < n) (hl : 0 < loN p h f t n a) : ∃ b, b < n ∧ 0 < ltN p h f t a b := by
  rw [lo_24 ok ha] at hl
  obtain ⟨k, hk, hd⟩ := cnN_pos.mp hl
  obtain ⟨b, hb, hs⟩ := dk_ex ok ha hd
  exact ⟨b, hb, cnN_pos.mpr ⟨k, hk, hs⟩⟩
theorem smN_add (g q : Nat → Nat) : ∀ m, smN (fun i => g i + q i) m = smN g m + smN q m
  | 0 => rfl
  | m + 1 => by
    rw [smN, smN, smN, smN_add g q m]
    omega
theorem smN_mono {g q : Nat → Nat} : ∀ {m : Nat}, (∀ i, i < m → g i ≤ q i) → smN g m ≤ smN q m
  | 0, _ => Nat.le_refl _
  | m + 1, h9 => by
    have := smN_mono (m := m) (fun i hi => h9 i (by omega))
    have := h9 m (by omega)
    rw [smN, smN]
    omega
theorem smN_cong {g q : Nat → Nat} : ∀ {m : Nat}, (∀ i, i < m → g i = q i) → smN g m = smN q m
  | 0, _ => rfl
  | m + 1, h9 => by rw [smN, smN, smN_cong (fun i hi => h9 i (by omega)), h9 m (by omega)]
theorem smN_zero (m : Nat) : smN (fun _ => 0) m = 0 := by
  induction m with
  | zero => rfl
  | succ m ih => rw [smN, ih]
theorem smN_swap (g : Nat → Nat → Nat) (m : Nat) : ∀ k, smN (fun a => smN (fun b => g a b) k) m = smN (fun b => smN (fun a => g a b) m) k
  | 0 => by
    show smN (fun _ => 0) m = 0
    exact smN_zero m
  | k + 1 => by
    rw [show (fun a => smN (fun b => g a b) (k + 1)) = fun a => smN (fun b => g a b) k + g a k from rfl, smN_add, smN_swap g m k]
    rfl
theorem any_sum {y : Nat → Nat → Bool} (m : Nat) : ∀ k, cnN (fun q => anyN (fun b => y b q) m) k ≤ smN (fun b => cnN (fun q => y b q) k) m
  | 0 => Nat.zero_le _
  | k + 1 => by
    have ih := any_sum (y := y) m k
    rw [cnN_s, show (fun b => cnN (fun q => y b q) (k + 1)) = fun b => cnN (fun q => y b q) k + b2n (y b k) from funext fun b => cnN_s _ _, smN_add]
    have : ∀ m, b2n (anyN (fun b => y b k) m) ≤ smN (fun b => b2n (y b k)) m := by
      intro m
      induction m with
      | zero => exact Nat.zero_le _
      | succ m ih =>
        rw [anyN, smN]
        cases c : y m k
        · rw [Bool.or_false]; simp only [b2n] at ih ⊢; omega
        · rw [Bool.or_true]; simp only [b2n, if_true]; omega
    have := this m
    omega
/-- what walls cast is no less than what houses lose -/
theorem ca_al (ok : SnOk n p h f t) : alN p h f t n ≤ smN (fun b => caN p h f t n b) n := by
  rw [show smN (fun b => caN p h f t n b) n = smN (fun a => smN (fun b => ltN p h f t a b) n) n from (smN_swap (fun a b => ltN p h f t a b) n n).symm]
  refine smN_mono (fun a ha => ?_)
  rw [lo_24 ok ha, cnN_cong (z := fun k => anyN (fun b => shB p h f t b a k) n) (fun k _ => dkN_any ok ha)]
  exact any_sum (y := fun b k => shB p h f t b a k) n 24
end
