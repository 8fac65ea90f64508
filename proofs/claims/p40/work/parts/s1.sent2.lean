/-! Taller walls, fair curfews, days. -/
section
variable {n : Nat} {p h f t : Nat → Nat}
theorem rc_mono {h' f' t' : Nat → Nat} {b k : Nat} (hb : tlN h f t b k ≤ tlN h' f' t' b k) : rcN h f t b k ≤ rcN h' f' t' b k := by
  unfold rcN
  split
  · exact Nat.le_refl _
  · exact Nat.div_le_div_right (Nat.mul_le_mul_right _ hb)
theorem shB_mono {h' f' t' : Nat → Nat} {a b k : Nat} (hb : tlN h f t b k ≤ tlN h' f' t' b k) (ha : tlN h' f' t' a k ≤ tlN h f t a k) (hs : shB p h f t b a k = true) : shB p h' f' t' b a k = true := by
  rw [shB_iff] at hs ⊢
  obtain ⟨h1, h2, h3⟩ := hs
  refine ⟨h1, Nat.le_trans h2 (rc_mono hb), ?_⟩
  refine Nat.lt_of_le_of_lt ha (Nat.lt_of_lt_of_le h3 (Nat.div_le_div_right ?_))
  have := Nat.mul_le_mul_right (spN k) hb
  omega
theorem tl_upH {o x i k : Nat} : tlN (upN h o x) f t i k = if i = o then (if f o ≠ 0 ∧ f o ≤ k ∧ k ≤ t o then 0 else x) else tlN h f t i k := by
  unfold tlN
  by_cases e : i = o
  · subst e
    rw [if_pos rfl]
    simp [upN]
  · rw [if_neg e]
    simp [upN, e]
theorem tl_up30 (ok : SnOk n p h f t) {o : Nat} (ho : o < n) (k : Nat) : tlN h f t o k ≤ tlN (upN h o 30) f t o k := by
  have := (ok.2 o ho).2.1
  rw [tl_upH, if_pos rfl, tlN]
  split <;> omega
/-- a wall built up to 30 casts no less -/
theorem ca_up (ok : SnOk n p h f t) {o : Nat} (ho : o < n) : caN p h f t n o ≤ caN p (upN h o 30) f t n o := by
  refine smN_mono (fun a ha => ?_)
  by_cases e : a = o
  · subst e
    rw [lt_self]
    exact Nat.zero_le _
  · exact cnN_mono (fun k _ hs => shB_mono (tl_up30 ok ho k) (by rw [tl_upH, if_neg e]; exact Nat.le_refl _) hs)
/-- .. and loses no more -/
theorem lo_up (ok : SnOk n p h f t) {o : Nat} (ho : o < n) : loN p (upN h o 30) f t n o ≤ loN p h f t n o := by
  have ok2 := ok.upH (a := o) (x := 30) (Nat.le_refl _)
  rw [lo_24 ok ho, lo_24 ok2 ho]
  refine cnN_mono (fun k _ hd => ?_)
  obtain ⟨b, hb, hs⟩ := dk_ex ok2 ho hd
  have hne : ¬ b = o := fun e => by
    subst e
    rw [shB_irr] at hs
    cases hs
  exact shB_dk ok ho hb (shB_mono (by rw [tl_upH, if_neg hne]; exact Nat.le_refl _) (tl_up30 ok ho k) hs)
end
theorem fr_ok {v : Nat → Int32} {g : Nat → Nat} {c : Nat} (hv : ∀ i, i < c → v (6 + i) = nI (g i) ∧ g i ≤ 156) : ∀ j, j ≤ c → 0 < j → ∃ m, m < j ∧ frX v j = (nI (6 + m), nI (g m)) ∧ ∀ i, i < j → g m ≤ g i ∧ (g i = g m → m ≤ i)
  | 0, _, h => absurd h (Nat.lt_irrefl _)
  | 1, hc, _ => by
    obtain ⟨e1, e2⟩ := hv 0 (by omega)
    refine ⟨0, by decide, ?_, fun i hi => by rw [show i = 0 by omega]; exact ⟨Nat.le_refl _, fun _ => Nat.le_refl _⟩⟩
    rw [frX, frX, e1, if_pos (show nI (g 0) < 157 from nI_lt (a := g 0) (b := 157) (by omega) (by decide))]
  | j + 2, hc, _ => by
    obtain ⟨m, h1, h2, h3⟩ := fr_ok hv (j + 1) (by omega) (by omega)
    obtain ⟨e1, e2⟩ := hv (j + 1) (by omega)
    have e3 := (hv m (by omega)).2
    rw [frX, h2, e1]
    dsimp only
    by_cases c9 : g (j + 1) < g m
    · rw [if_pos (nI_lt c9 (by omega))]
      refine ⟨j + 1, by omega, rfl, fun i hi => ?_⟩
      by_cases d : i = j + 1
      · subst d; exact ⟨Nat.le_refl _, fun _ => Nat.le_refl _⟩
      · have := h3 i (by omega)
        exact ⟨by omega, fun q => by omega⟩
    · rw [if_neg (nI_nlt (by omega) (by omega))]
      refine ⟨m, by omega, rfl, fun i hi => ?_⟩
      by_cases d : i = j + 1
      · subst d; exact ⟨by omega, fun _ => by omega⟩
      · exact h3 i (by omega)
/-- the best of what was looked at -/
def BsW (A : Nat) (g : Nat → Nat → Nat) (S : Nat → Nat → Prop) (r : Int32 × Int32) : Prop := (r = (-1, nI A) ∧ ∀ h i, S h i → A ≤ g h i) ∨ ∃ w m, S w m ∧ r = (nI w, nI (g w m)) ∧ g w m < A ∧ ∀ h i, S h i → g w m ≤ g h i
theorem BsW.congr {A : Nat} {g : Nat → Nat → Nat} {S S' : Nat → Nat → Prop} {r : Int32 × Int32} (h : BsW A g S r) (e : ∀ a i, S a i ↔ S' a i) : BsW A g S' r := by
  rcases h with ⟨h1, h2⟩ | ⟨w, m, h1, h2, h3, h4⟩
  · exact Or.inl ⟨h1, fun a i q => h2 a i ((e a i).mpr q)⟩
  · exact Or.inr ⟨w, m, (e w m).mp h1, h2, h3, fun a i q => h4 a i ((e a i).mpr q)⟩
theorem bs_step {A : Nat} {g : Nat → Nat → Nat} {S : Nat → Nat → Prop} {r : Int32 × Int32} {x : Int32} {a j : Nat} (hA : A ≤ 156) (hv : x = nI (g a j)) (hg : g a j ≤ 156) (h : BsW A g S r) : BsW A g (fun a' i' => S a' i' ∨ (a' = a ∧ i' = j)) (if x < r.2 then (nI a, x) else r) := by
  subst hv
  rcases h with ⟨rfl, h2⟩ | ⟨w, m, h1, rfl, h3, h4⟩
  · dsimp only
    by_cases c : g a j < A
    · rw [if_pos (nI_lt c (by omega))]
      refine Or.inr ⟨a, j, Or.inr ⟨rfl, rfl⟩, rfl, c, fun a' i' q => ?_⟩
      rcases q with q | ⟨rfl, rfl⟩
      · have := h2 a' i' q; omega
      · exact Nat.le_refl _
    · rw [if_neg (nI_nlt (by omega) (by omega))]
      refine Or.inl ⟨rfl, fun a' i' q => ?_⟩
      rcases q with q | ⟨rfl, rfl⟩
      · exact h2 a' i' q
      · omega
  · dsimp only
    by_cases c : g a j < g w m
    · rw [if_pos (nI_lt c (by omega))]
      refine Or.inr ⟨a, j, Or.inr ⟨rfl, rfl⟩, rfl, by omega, fun a' i' q => ?_⟩
      rcases q with q | ⟨rfl, rfl⟩
      · have := h4 a' i' q; omega
      · exact Nat.le_refl _
    · rw [if_neg (nI_nlt (by omega) (by omega))]
      refine Or.inr ⟨w, m, Or.inl h1, rfl, h3, fun a' i' q => ?_⟩
      rcases q with q | ⟨rfl, rfl⟩
      · exact h4 a' i' q
      · omega
theorem iw_ok {A c : Nat} {v : Nat → Int32} {g : Nat → Nat → Nat} {S : Nat → Nat → Prop} {r : Int32 × Int32} {a : Nat} (hA : A ≤ 156) (hv : ∀ i, i < c → v (6 + i) = nI (g a i) ∧ g a i ≤ 156) (h : BsW A g S r) : ∀ j, j ≤ c → BsW A g (fun a' i' => S a' i' ∨ (a' = a ∧ i' < j)) (iwX v a r j)
  | 0, _ => h.congr (fun a' i' => ⟨Or.inl, fun q => q.elim id (fun z => absurd z.2 (Nat.not_lt_zero _))⟩)
  | j + 1, hj => by
    obtain ⟨e1, e2⟩ := hv j (by omega)
    have ih := bs_step (a := a) (j := j) hA e1 e2 (iw_ok hA hv h j (by omega))
    rw [iwX]
    refine ih.congr (fun a' i' => ⟨fun q => ?_, fun q => ?_⟩)
    · rcases q with (q | ⟨rfl, q⟩) | ⟨rfl, rfl⟩
      · exact Or.inl q
      · exact Or.inr ⟨rfl, by omega⟩
      · exact Or.inr ⟨rfl, by omega⟩
    · rcases q with q | ⟨rfl, q⟩
      · exact Or.inl (Or.inl q)
      · by_cases z : i' = j
        · exact Or.inr ⟨rfl, z⟩
        · exact Or.inl (Or.inr ⟨rfl, by omega⟩)
theorem ow_ok {A c N : Nat} {v : Nat → Nat → Int32} {g : Nat → Nat → Nat} (hA : A ≤ 156) (hv : ∀ a, a < N → ∀ i, i < c → v a (6 + i) = nI (g a i) ∧ g a i ≤ 156) : ∀ H, H ≤ N → BsW A g (fun a i => a < H ∧ i < c) (owX v c (-1, nI A) H)
  | 0, _ => Or.inl ⟨rfl, fun a i q => absurd q.1 (Nat.not_lt_zero _)⟩
  | H + 1, hH => by
    rw [owX]
    refine (iw_ok hA (hv H (by omega)) (ow_ok hA hv H (by omega)) c (Nat.le_refl _)).congr (fun a i => ⟨fun q => ?_, fun q => ?_⟩)
    · rcases q with q | ⟨rfl, q⟩
      · exact ⟨by omega, q.2⟩
      · exact ⟨by omega, q⟩
    · by_cases z : a = H
      · exact Or.inr ⟨z, q.2⟩
      · exact Or.inl ⟨by omega, q.2⟩
theorem du_ok {f : Nat → Int32} {n : Nat} : (∃ k, k < n ∧ duG f n = nI k ∧ f k = 0 ∧ ∀ i, i < k → ¬ f i = 0) ∨ (duG f n = -1 ∧ ∀ i, i < n → ¬ f i = 0) := by
  cases e : fstN (fun k => f k == 0) n with
  | none =>
    refine Or.inr ⟨by rw [duG, e], fun i hi q => ?_⟩
    have := fstN_no e hi
    simp [q] at this
  | some k =>
    obtain ⟨h1, h2, h3⟩ := fstN_spec e
    refine Or.inl ⟨k, h1, by rw [duG, e], by simpa using h2, fun i hi q => ?_⟩
    have := h3 i hi
    simp [q] at this
theorem upN_two (f : Nat → Nat) (i x y : Nat) : upN (upN f i x) i y = upN f i y := by
  funext j
  by_cases e : j = i <;> simp [upN, e]
theorem upN_back {f : Nat → Nat} {i x : Nat} : upN (upN f i x) i (f i) = f := by
  funext j
  by_cases e : j = i <;> simp [upN, e]
/-- what all lose with another curfew -/
def fvN (p h f t : Nat → Nat) (n m a k : Nat) : Nat := alN p h (upN f a (6 + k)) (upN t a (6 + k + m - 1)) n
theorem fv_b {N m a k : Nat} {P H F T : Nat → Int32} {p h f t : Nat → Nat} (e : EqS N P H F T p h f t) (ok : SnOk N p h f t) (hm : 1 ≤ m) (hk : k < 14 - m) : fcV N P H F T m a (6 + k) = nI (fvN p h f t N m a k) ∧ fvN p h f t N m a k ≤ 156 := by
  have ok2 := ok.upC (a := a) (x := 6 + k) (y := 6 + k + m - 1) (Or.inr ⟨by omega, by omega, by omega⟩)
  have e2 := e.upC (a := a) (x := 6 + k) (y := 6 + k + m - 1)
  rw [cu_nI (show ¬ 6 + k = 0 by omega), cu_nI (show ¬ 6 + k + m - 1 = 0 by omega)] at e2
  exact ⟨al_b e2 ok2, alN_le _ _ _ _ ok.1⟩
