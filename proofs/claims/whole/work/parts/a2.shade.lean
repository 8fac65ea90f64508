def fhB (y : Nat → Bool) (h : Nat → Int32) : Nat → Int32
  | 0 => 0
  | k + 1 => fhB y h k ||| (b2i (y (k + 1)) <<< (h (k + 1) &&& 31))
theorem fhAcc_B {wb wh : Int32 → Int32} {ew : Int32} : ∀ n, fhAcc wb wh ew n = fhB (fun k => decide (fhYes wb wh ew k)) (fhHour ew) n
  | 0 => rfl
  | n + 1 => by
    rw [fhAcc, fhB, ← fhAcc_B n]
    by_cases c : fhYes wb wh ew (n + 1)
    · rw [if_pos c, decide_eq_true c]; rfl
    · rw [if_neg c, decide_eq_false c]
      show _ = _ ||| ((0 : Int32) <<< _)
      rw [Int32.zero_shiftLeft, Int32.or_zero]
theorem sp_ab : ∀ k : Fin 7, spM (nI (12 + k.1)) = nI k.1 ∧ spM (nI (12 - k.1)) = nI k.1 ∧ (12 : Int32) - nI k.1 = nI (12 - k.1) := by decide
theorem lt12 : ∀ k : Fin 7, ¬ nI (12 + k.1) < 12 ∧ (1 ≤ k.1 → nI (12 - k.1) < 12) := by decide
theorem nd_pos : ∀ d : Fin 100, 1 ≤ d.1 → ¬ nI d.1 ≤ 0 ∧ -nI d.1 ≤ 0 ∧ ¬ 0 ≤ -nI d.1 ∧ 0 ≤ nI d.1 ∧ ¬ nI d.1 = 0 ∧ ¬ -nI d.1 = 0 := by decide
theorem tl_wl {H F T : Nat → Int32} {i k : Nat} (h : F i = -1 → T i = -1) (hk : k < 100) : tlM H F T i (nI k) = wlF H F T i (nI k) := by
  have hn : (-1 : Int32) < nI k := by
    apply Int32.lt_iff_toInt_lt.mpr
    rw [nI_toInt (by omega)]
    have : (-1 : Int32).toInt = -1 := by decide
    omega
  unfold tlM wlF
  by_cases c : F i = -1
  · rw [if_pos c, if_neg]
    rintro ⟨-, h2⟩
    rw [h c] at h2
    exact h2 hn
  · rw [if_neg c]
    by_cases d : ¬ nI k < F i ∧ ¬ T i < nI k
    · rw [if_pos d, if_pos (by simp [inX, d.1, d.2])]
    · rw [if_neg d, if_neg]
      intro e
      apply d
      simpa [inX] using e
theorem or_up : ∀ y1 y2 y3 y4 y5 y6 : Bool, ((((((((((((((0 : Int32) ||| (b2i false <<< (nI 6 &&& 31))) ||| (b2i false <<< (nI 7 &&& 31))) ||| (b2i false <<< (nI 8 &&& 31))) ||| (b2i false <<< (nI 9 &&& 31))) ||| (b2i false <<< (nI 10 &&& 31))) ||| (b2i false <<< (nI 11 &&& 31))) ||| (b2i false <<< (nI 12 &&& 31))) ||| (b2i y1 <<< (nI 13 &&& 31))) ||| (b2i y2 <<< (nI 14 &&& 31))) ||| (b2i y3 <<< (nI 15 &&& 31))) ||| (b2i y4 <<< (nI 16 &&& 31))) ||| (b2i y5 <<< (nI 17 &&& 31))) ||| (b2i y6 <<< (nI 18 &&& 31))) = (((((((0 : Int32) ||| (b2i y1 <<< (nI 13 &&& 31))) ||| (b2i y2 <<< (nI 14 &&& 31))) ||| (b2i y3 <<< (nI 15 &&& 31))) ||| (b2i y4 <<< (nI 16 &&& 31))) ||| (b2i y5 <<< (nI 17 &&& 31))) ||| (b2i y6 <<< (nI 18 &&& 31))) := by decide +kernel
theorem or_dn : ∀ y1 y2 y3 y4 y5 y6 : Bool, ((((((((((((((0 : Int32) ||| (b2i y6 <<< (nI 6 &&& 31))) ||| (b2i y5 <<< (nI 7 &&& 31))) ||| (b2i y4 <<< (nI 8 &&& 31))) ||| (b2i y3 <<< (nI 9 &&& 31))) ||| (b2i y2 <<< (nI 10 &&& 31))) ||| (b2i y1 <<< (nI 11 &&& 31))) ||| (b2i false <<< (nI 12 &&& 31))) ||| (b2i false <<< (nI 13 &&& 31))) ||| (b2i false <<< (nI 14 &&& 31))) ||| (b2i false <<< (nI 15 &&& 31))) ||| (b2i false <<< (nI 16 &&& 31))) ||| (b2i false <<< (nI 17 &&& 31))) ||| (b2i false <<< (nI 18 &&& 31))) = (((((((0 : Int32) ||| (b2i y1 <<< (nI 11 &&& 31))) ||| (b2i y2 <<< (nI 10 &&& 31))) ||| (b2i y3 <<< (nI 9 &&& 31))) ||| (b2i y4 <<< (nI 8 &&& 31))) ||| (b2i y5 <<< (nI 7 &&& 31))) ||| (b2i y6 <<< (nI 6 &&& 31))) := by decide +kernel
theorem sn_no {P H F T : Nat → Int32} {i j : Nat} {hr : Int32} (h : awM P i j hr ≤ 0) : snM P H F T i j hr = false := by rw [snM, if_pos h]
theorem sn_12 {P H F T : Nat → Int32} {i j : Nat} : snM P H F T i j (nI 12) = false := by
  unfold snM
  by_cases c : awM P i j (nI 12) ≤ 0
  · rw [if_pos c]
  · rw [if_neg c, if_pos]
    rw [show spM (nI 12) = 0 from by decide, Int32.mul_zero, show (0 : Int32) / 2 = 0 from by decide]
    exact Int32.not_le.mp c
theorem sn_yes {P H F T : Nat → Int32} {i j k d : Nat} {hr ew : Int32} (hF : F i = -1 → T i = -1) (hFj : F j = -1 → T j = -1) {n : Nat} (hn : n < 100) (hhr : hr = nI n) (hd : 1 ≤ d) (hd2 : d < 100) (ha : awM P i j hr = nI d) (hs : spM hr = nI k) (hf : fhHour ew k = hr) (hab : absI ew = nI d) : snM P H F T i j hr = decide (fhYes (wlF H F T i) (wlF H F T j) ew k) := by
  have h1 := (nd_pos ⟨d, hd2⟩ hd).1
  rw [snM, ha, hs, if_neg h1, hhr, tl_wl hF hn, tl_wl hFj hn, ← hhr]
  unfold fhYes
  rw [hf, hab]
  by_cases c : wlF H F T i hr * nI k / 2 < nI d
  · rw [if_pos c, decide_eq_false (fun q => q.1 c)]
  · rw [if_neg c]
    by_cases e : wlF H F T j hr < (wlF H F T i hr * nI k - 2 * nI d) / nI k
    · rw [decide_eq_true e, decide_eq_true ⟨c, Int32.not_le.mpr e⟩]
    · rw [decide_eq_false e, decide_eq_false (fun q => e (Int32.not_le.mp q.2))]
set_option maxRecDepth 100000 in
/-- the model's hours are the class's -/
theorem lk_sh {P H F T : Nat → Int32} {a b p q : Nat} (hp : P a = nI p) (hq : P b = nI q) (hp9 : p ≤ 99) (hq9 : q ≤ 99) (ha : F a = -1 → T a = -1) (hb : F b = -1 → T b = -1) : lkM P H F T a b = shH P H F T a b := by
  rw [lkM, shH, shG, hp, hq]
  rcases Nat.lt_trichotomy p q with h | h | h
  · -- eastward less than none
    obtain ⟨d, rfl⟩ : ∃ d, q = p + d := ⟨q - p, by omega⟩
    have hd : 1 ≤ d := by omega
    have hd2 : d < 100 := by omega
    obtain ⟨n1, n2, n3, n4, n5, n6⟩ := nd_pos ⟨d, hd2⟩ hd
    have e1 : nI (p + d) - nI p = nI d := by rw [pk_sub (by omega), show p + d - p = d by omega]
    have e2 : nI p - nI (p + d) = -nI d := by rw [← Int32.neg_sub, e1]
    have hab : absI (-nI d) = nI d := by rw [absI, if_neg n3, Int32.zero_sub, Int32.neg_neg]
    rw [e2, if_neg n6, fhAcc_B]
    obtain ⟨y, hy⟩ : ∃ y : Nat → Bool, y = fun k => decide (fhYes (wlF H F T b) (wlF H F T a) (-nI d) k) := ⟨_, rfl⟩
    rw [← hy]
    have hh : ∀ n k : Nat, k ≤ 6 → n + k = 12 → fhHour (-nI d) k = nI n := fun n k hk e => by
      rw [fhHour, if_neg n3, show n = 12 - k by omega]; exact (sp_ab ⟨k, by omega⟩).2.2
    have lo : ∀ n k : Nat, 1 ≤ k → k ≤ 6 → n + k = 12 → snM P H F T b a (nI n) = y k := fun n k h1 hk e => by
      rw [hy]; exact sn_yes hb ha (n := n) (by omega) rfl hd hd2 (by rw [awM, show n = 12 - k by omega, if_pos ((lt12 ⟨k, by omega⟩).2 h1), hp, hq, e1]) (by rw [show n = 12 - k by omega]; exact (sp_ab ⟨k, by omega⟩).2.1) (hh n k hk e) hab
    have hi : ∀ n k : Nat, k ≤ 6 → n = 12 + k → snM P H F T b a (nI n) = false := fun n k hk e => sn_no (by rw [e, awM, if_neg (lt12 ⟨k, by omega⟩).1, hp, hq, e2]; exact n2)
    simp only [bsM, fhB, Nat.reduceAdd]
    rw [lo 6 6 (by decide) (by decide) (by decide), lo 7 5 (by decide) (by decide) (by decide), lo 8 4 (by decide) (by decide) (by decide), lo 9 3 (by decide) (by decide) (by decide), lo 10 2 (by decide) (by decide) (by decide), lo 11 1 (by decide) (by decide) (by decide), hi 12 0 (by decide) (by decide), hi 13 1 (by decide) (by decide), hi 14 2 (by decide) (by decide), hi 15 3 (by decide) (by decide), hi 16 4 (by decide) (by decide), hi 17 5 (by decide) (by decide), hi 18 6 (by decide) (by decide), hh 11 1 (by decide) (by decide), hh 10 2 (by decide) (by decide), hh 9 3 (by decide) (by decide), hh 8 4 (by decide) (by decide), hh 7 5 (by decide) (by decide), hh 6 6 (by decide) (by decide)]
    exact or_dn _ _ _ _ _ _
  · subst h
    have e0 : nI p - nI p = 0 := by rw [Int32.sub_self]
    rw [if_pos e0]
    have hz : ∀ hr, snM P H F T b a hr = false := fun hr => sn_no (by rw [awM, hp, hq, e0]; split <;> decide)
    simp only [bsM, hz]
    decide
  · obtain ⟨d, rfl⟩ : ∃ d, p = q + d := ⟨p - q, by omega⟩
    have hd : 1 ≤ d := by omega
    have hd2 : d < 100 := by omega
    obtain ⟨n1, n2, n3, n4, n5, n6⟩ := nd_pos ⟨d, hd2⟩ hd
    have e1 : nI (q + d) - nI q = nI d := by rw [pk_sub (by omega), show q + d - q = d by omega]
    have e2 : nI q - nI (q + d) = -nI d := by rw [← Int32.neg_sub, e1]
    have hab : absI (nI d) = nI d := by rw [absI, if_pos n4]
    rw [e1, if_neg n5, fhAcc_B]
    obtain ⟨y, hy⟩ : ∃ y : Nat → Bool, y = fun k => decide (fhYes (wlF H F T b) (wlF H F T a) (nI d) k) := ⟨_, rfl⟩
    rw [← hy]
    have hh : ∀ n k : Nat, k ≤ 6 → n = 12 + k → fhHour (nI d) k = nI n := fun n k _ e => by rw [fhHour, if_pos n4, e]
    have hi : ∀ n k : Nat, 1 ≤ k → k ≤ 6 → n = 12 + k → snM P H F T b a (nI n) = y k := fun n k h1 hk e => by
      rw [hy]; exact sn_yes hb ha (n := n) (by omega) rfl hd hd2 (by rw [awM, e, if_neg (lt12 ⟨k, by omega⟩).1, hp, hq, e1]) (by rw [e]; exact (sp_ab ⟨k, by omega⟩).1) (hh n k hk e) hab
    have lo : ∀ n k : Nat, 1 ≤ k → k ≤ 6 → n + k = 12 → snM P H F T b a (nI n) = false := fun n k h1 hk e => sn_no (by rw [show n = 12 - k by omega, awM, if_pos ((lt12 ⟨k, by omega⟩).2 h1), hp, hq, e2]; exact n2)
    simp only [bsM, fhB, Nat.reduceAdd]
    rw [lo 6 6 (by decide) (by decide) (by decide), lo 7 5 (by decide) (by decide) (by decide), lo 8 4 (by decide) (by decide) (by decide), lo 9 3 (by decide) (by decide) (by decide), lo 10 2 (by decide) (by decide) (by decide), lo 11 1 (by decide) (by decide) (by decide), sn_12, hi 13 1 (by decide) (by decide) (by decide), hi 14 2 (by decide) (by decide) (by decide), hi 15 3 (by decide) (by decide) (by decide), hi 16 4 (by decide) (by decide) (by decide), hi 17 5 (by decide) (by decide) (by decide), hi 18 6 (by decide) (by decide) (by decide), hh 13 1 (by decide) (by decide), hh 14 2 (by decide) (by decide), hh 15 3 (by decide) (by decide), hh 16 4 (by decide) (by decide), hh 17 5 (by decide) (by decide), hh 18 6 (by decide) (by decide)]
    exact or_up _ _ _ _ _ _

