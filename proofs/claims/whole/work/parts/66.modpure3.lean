def bsM (v : Int32 → Bool) : Nat → Int32
  | 0 => 0
  | j + 1 => bsM v j ||| (b2i (v (nI (6 + j))) <<< (nI (6 + j) &&& 31))
theorem bsM_s {v : Int32 → Bool} {k : Nat} (hk : 6 ≤ k) : bsM v (k + 1 - 6) = bsM v (k - 6) ||| (b2i (v (nI k)) <<< (nI k &&& 31)) := by
  rw [show k + 1 - 6 = (k - 6) + 1 by omega, bsM, show 6 + (k - 6) = k by omega]
/-- the hours at which b shades a -/
def lkM (P H F T : Nat → Int32) (a b : Nat) : Int32 := bsM (fun hr => snM P H F T b a hr) 13
def LkOk (N : Nat) (P H F T S D : Nat → Int32) : Prop := (∀ a b, a < N → b < N → S (12 * a + b) = lkM P H F T a b) ∧ ∀ a, a < N → D a = orN (fun b => lkM P H F T a b) N
theorem ji_nI {i k : Nat} (hi : i < 12) (hk : k < 12) : ((12 : Int32) * nI i + nI k).toNatClampNeg = 12 * i + k := by
  rw [show (12 : Int32) = nI 12 from rfl, pk_mul, nI_add, nI_clamp (by omega)]
theorem ji_in {i k : Nat} (hi : i < 12) (hk : k < 12) : vp_in ((12 : Int32) * nI i + nI k) 144 := by
  rw [show (12 : Int32) = nI 12 from rfl, pk_mul, nI_add]
  exact vp_in_nI (by omega) (by decide)
theorem lk_row {i k N : Nat} {S : Nat → Int32} {g : Nat → Nat → Int32} {x : Int32} (hi : i < 12) (hk : k < N) (hN : N ≤ 12) (h1 : ∀ a b, a < i → b < N → S (12 * a + b) = g a b) : ∀ a b, a < i → b < N → upd S (12 * i + k) x (12 * a + b) = g a b := fun a b ha hb => by
  rw [upd_n (by omega)]; exact h1 a b ha hb
theorem lk_col {i k : Nat} {S : Nat → Int32} {g : Nat → Nat → Int32} {x : Int32} (h2 : ∀ b, b < k → S (12 * i + b) = g i b) (hx : x = g i k) : ∀ b, b < k + 1 → upd S (12 * i + k) x (12 * i + b) = g i b := fun b hb => by
  rcases Nat.lt_or_ge b k with c | c
  · rw [upd_n (by omega)]; exact h2 b c
  · have e : b = k := by omega
    subst e; rw [upd_s, hx]
theorem lk_all {i N : Nat} {S : Nat → Int32} {g : Nat → Nat → Int32} (h1 : ∀ a b, a < i → b < N → S (12 * a + b) = g a b) (h2 : ∀ b, b < N → S (12 * i + b) = g i b) : ∀ a b, a < i + 1 → b < N → S (12 * a + b) = g a b := fun a b ha hb => by
  rcases Nat.lt_or_ge a i with c | c
  · exact h1 a b c hb
  · have e : a = i := by omega
    subst e; exact h2 b hb
theorem dk_all {i : Nat} {D : Nat → Int32} {g : Nat → Int32} (h1 : ∀ a, a < i → D a = g a) (h2 : D i = g i) : ∀ a, a < i + 1 → D a = g a := fun a ha => by
  rcases Nat.lt_or_ge a i with c | c
  · exact h1 a c
  · have e : a = i := by omega
    subst e; exact h2
theorem dk_upd {i : Nat} {D : Nat → Int32} {g : Nat → Int32} {x : Int32} (h1 : ∀ a, a < i → D a = g a) : ∀ a, a < i → upd D i x a = g a := fun a ha => by
  rw [upd_n (by omega)]; exact h1 a ha
