theorem evS_cong {lf lf2 : Int32 → Int32 → Int32 → Int32} {op f s : Int32} {xs : List Int32} (h : ¬ 7 < op → lf op f s = lf2 op f s) : evS lf op f s xs = evS lf2 op f s xs := by
  unfold evS
  by_cases c : 7 < op
  · rw [if_pos c, if_pos c]
  · rw [if_neg c, if_neg c, h c]
theorem evL_cong {lf lf2 : Int32 → Int32 → Int32 → Int32} {o g j : Nat → Int32} : ∀ (f k : Nat) {xs : List Int32}, (∀ r, k ≤ r → r < k + f → ¬ 7 < o r → lf (o r) (g r) (j r) = lf2 (o r) (g r) (j r)) → evL lf o g j k f xs = evL lf2 o g j k f xs
  | 0, _, _, _ => rfl
  | f + 1, k, xs, h => by
    rw [evL, evL, evS_cong (h k (Nat.le_refl _) (by omega)), evL_cong f (k + 1) (fun r a b => h r (by omega) (by omega))]
theorem rk_cong {lf lf2 : Int32 → Int32 → Int32 → Int32} {o g j : Nat → Int32} {lo hi : Nat} (h : ∀ r, lo ≤ r → r < hi → ¬ 7 < o r → lf (o r) (g r) (j r) = lf2 (o r) (g r) (j r)) : rkX lf o g j lo hi = rkX lf2 o g j lo hi := by
  unfold rkX
  rw [evL_cong (hi - lo) lo (fun r a b => h r a (by omega))]
theorem most_mx {f : Nat → Int32} {D : Nat → Int32} : ∀ {N : Nat}, (∀ i, i < N → f i = bitC (D i) ∧ 0 ≤ bitC (D i)) → mostN D N = if N = 0 then 0 else f (amx f N)
  | 0, _ => rfl
  | 1, h => by
    obtain ⟨h1, h2⟩ := h 0 (by decide)
    rw [mostN, mostN, if_neg (by decide), amx_1, h1, maxI]
    by_cases c : 0 < bitC (D 0)
    · rw [if_pos c]
    · rw [if_neg c]; exact Int32.le_antisymm h2 (Int32.not_lt.mp c)
  | N + 2, h => by
    have ih := most_mx (f := f) (D := D) (N := N + 1) (fun i hi => h i (by omega))
    rw [if_neg (by omega)] at ih
    obtain ⟨h1, -⟩ := h (N + 1) (by omega)
    rw [mostN, ih, if_neg (by omega), ← h1, maxI]
    show _ = f (if f (amx f (N + 1)) < f (N + 1) then N + 1 else amx f (N + 1))
    by_cases c : f (amx f (N + 1)) < f (N + 1)
    · rw [if_pos c, if_pos c]
    · rw [if_neg c, if_neg c]
/-- places are numbers below 100 -/
def Pok (N : Nat) (P : Nat → Int32) : Prop := ∀ i, i < N → ∃ p, p ≤ 99 ∧ P i = nI p
section
variable {N : Nat} {P H F T : Nat → Int32} {dg : Int32}
theorem lk_eq (hP : Pok N P) (hF : FTok N F T) {a b : Nat} (ha : a < N) (hb : b < N) : lkM P H F T a b = shH P H F T a b := by
  obtain ⟨p, p1, p2⟩ := hP a ha
  obtain ⟨q, q1, q2⟩ := hP b hb
  exact lk_sh p2 q2 p1 q1 (hF a ha) (hF b hb)
theorem dk_eq (hP : Pok N P) (hF : FTok N F T) {a : Nat} (ha : a < N) : dkM N P H F T a = dkG N P H F T a := orN_cong (fun b hb => lk_eq hP hF ha hb)
theorem ls_eq (hP : Pok N P) (hF : FTok N F T) {a : Nat} (ha : a < N) : lsM N P H F T a = bitC (dkG N P H F T a) := by rw [lsM, dk_eq hP hF ha]
theorem ct_eq (hP : Pok N P) (hF : FTok N F T) {a : Nat} (ha : a < N) : ctM N P H F T a = csG N P H F T a := sumN_cong (fun b hb => by rw [lk_eq hP hF hb ha])
theorem al_eq (hP : Pok N P) (hF : FTok N F T) : alM N P H F T = laG N P H F T := sumN_cong (fun a ha => ls_eq hP hF ha)
theorem lk_bs (a b : Nat) : ∃ y, lkM P H F T a b = bsB y 13 := ⟨_, bs_B 13⟩
theorem dk_bs (a : Nat) : ∃ y, dkM N P H F T a = bsB y 13 := or_bs (fun b _ => lk_bs a b)
theorem ls_ok (a : Nat) : (lsM N P H F T a = 0 ↔ dkM N P H F T a = 0) ∧ 0 ≤ lsM N P H F T a := by
  obtain ⟨y, hy⟩ := dk_bs (N := N) (P := P) (H := H) (F := F) (T := T) a
  rw [lsM, hy]
  exact bsB_ok y
theorem lk_ok (a b : Nat) : (bitC (lkM P H F T a b) = 0 ↔ lkM P H F T a b = 0) ∧ 0 ≤ bitC (lkM P H F T a b) := by
  obtain ⟨y, hy⟩ := lk_bs (P := P) (H := H) (F := F) (T := T) a b
  rw [hy]
  exact bsB_ok y
theorem mx_eq (hP : Pok N P) (hF : FTok N F T) : mxM N P H F T = mostN (dkG N P H F T) N := by
  rw [most_mx (f := lsM N P H F T) (fun i hi => ⟨ls_eq hP hF hi, by rw [← ls_eq hP hF hi]; exact (ls_ok i).2⟩), mxM]
theorem b2i_pos {x : Int32} (h : 0 ≤ x) : b2i (decide (0 < x)) = b2i (!decide (x = 0)) := by
  by_cases c : x = 0
  · rw [decide_eq_true c, decide_eq_false (fun q => (pos_ne h).mp q c)]; rfl
  · rw [decide_eq_false c, decide_eq_true ((pos_ne h).mpr c)]; rfl
/-- the model's leaves are the class's -/
theorem lf_eq (hN : N ≤ 12) (hP : Pok N P) (hF : FTok N F T) {od wi al o g j : Int32} (h : RowS N od wi al o g j) (h7 : ¬ 7 < o) : lfI N dg P H F T o g j = lfG N dg P H F T o g j := by
  obtain ⟨c, hc, ho, -, -, rn, r6⟩ := h
  have c7 : c ≤ 7 := by
    rcases Nat.lt_or_ge 7 c with q | q
    · exact absurd (nI_lt (a := 7) (b := c) q (by omega)) (ho ▸ h7)
    · exact q
  rw [ho, lfI_nI (by omega)]
  have : c = 0 ∨ c = 1 ∨ c = 2 ∨ c = 3 ∨ c = 4 ∨ c = 5 ∨ c = 6 ∨ c = 7 := by omega
  rcases this with rfl | rfl | rfl | rfl | rfl | rfl | rfl | rfl
  · simp only [lfM]; rfl
  · simp only [lfM]; rfl
  · simp only [lfM]; rw [mx_eq hP hF]; rfl
  · obtain ⟨-, x, hx, rfl⟩ := rn (by decide)
    simp only [lfM]
    rw [nI_clamp (by omega), ls_eq hP hF hx]
    show _ = lsG N P H F T (nI x)
    rw [lsG, stAt_nI hx hN]
  · obtain ⟨-, x, hx, rfl⟩ := rn (by decide)
    simp only [lfM]
    rw [nI_clamp (by omega), ct_eq hP hF hx]
    show _ = stAt (nI N) (nI x) (csG N P H F T) 0
    rw [stAt_nI hx hN]
  · obtain ⟨-, x, hx, rfl⟩ := rn (by decide)
    simp only [lfM]
    rw [nI_clamp (by omega)]
    show _ = stAt (nI N) (nI x) H 0
    rw [stAt_nI hx hN]
  · obtain ⟨-, x, hx, rfl⟩ := rn (by decide)
    obtain ⟨-, y, hy, rfl⟩ := r6 rfl
    simp only [lfM]
    rw [nI_clamp (by omega), nI_clamp (by omega), b2i_pos (lk_ok y x).2]
    show _ = b2i (!decide (shX N P H F T (nI y) (nI x) = 0))
    rw [shX, if_pos ⟨hasB_nI hy hN, hasB_nI hx hN⟩, nI_clamp (by omega), nI_clamp (by omega), ← lk_eq hP hF hy hx]
    have hk := (lk_ok (P := P) (H := H) (F := F) (T := T) y x).1
    by_cases q : lkM P H F T y x = 0
    · rw [decide_eq_true q, decide_eq_true (hk.mpr q)]
    · rw [decide_eq_false q, decide_eq_false (fun z => q (hk.mp z))]
  · obtain ⟨-, x, hx, rfl⟩ := rn (by decide)
    rw [show lfM N dg P H F T 7 (nI x) j = b2i (decide (0 < lsM N P H F T (nI x).toNatClampNeg)) from rfl]
    rw [nI_clamp (by omega), b2i_pos (ls_ok x).2, ls_eq hP hF hx]
    show _ = b2i (!decide (lsG N P H F T (nI x) = 0))
    rw [lsG, stAt_nI hx hN]
theorem al_nat (hN : N ≤ 12) : ∃ t, t ≤ 156 ∧ alM N P H F T = nI t := by
  have key : ∀ k, k ≤ N → ∃ t, t ≤ 13 * k ∧ sumN (fun a => lsM N P H F T a) k = nI t := by
    intro k
    induction k with
    | zero => exact fun _ => ⟨0, by omega, rfl⟩
    | succ k ih =>
      intro hk
      obtain ⟨t, h1, h2⟩ := ih (by omega)
      obtain ⟨y, hy⟩ := dk_bs (N := N) (P := P) (H := H) (F := F) (T := T) k
      obtain ⟨u, h3, h4⟩ := bsB_nat y
      refine ⟨t + u, by omega, ?_⟩
      rw [sumN, h2, lsM, hy, h4, nI_add]
  obtain ⟨t, h1, h2⟩ := key N (Nat.le_refl _)
  exact ⟨t, by omega, h2⟩
end
theorem hld_t {P Q : Prop} [Decidable P] [Decidable Q] (h : (!(decide P && decide Q)) = true) : ¬ (P ∧ Q) := by
  rintro ⟨p, q⟩
  rw [decide_eq_true p, decide_eq_true q] at h
  exact absurd h (by decide)
theorem hld_f {P Q : Prop} [Decidable P] [Decidable Q] (h : (!(decide P && decide Q)) = false) : P ∧ Q := by
  by_cases p : P
  · by_cases q : Q
    · exact ⟨p, q⟩
    · rw [decide_eq_false q] at h; simp at h
  · rw [decide_eq_false p] at h; simp at h

