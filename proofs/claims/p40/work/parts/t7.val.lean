/-! Steps reckoned. -/
def evs (lf : Int32 → Int32 → Int32 → Int32) : List ST → List Int32 → List Int32
  | [], xs => xs
  | t :: l, xs => evs lf l (evS lf t.1 t.2.1 t.2.2 xs)
theorem evs_app {lf : Int32 → Int32 → Int32 → Int32} {m : List ST} : ∀ (l : List ST) (xs : List Int32), evs lf (l ++ m) xs = evs lf m (evs lf l xs)
  | [], _ => rfl
  | t :: l, xs => evs_app l _
theorem evL_is {lf : Int32 → Int32 → Int32 → Int32} {o g j : Nat → Int32} : ∀ {l : List ST} {s : Nat} {xs : List Int32}, LdS o g j s l → evL lf o g j s l.length xs = evs lf l xs
  | [], _, _, _ => rfl
  | t :: l, s, xs, h => by
    obtain ⟨h1, h2, h3, h4⟩ := h
    show evL lf o g j (s + 1) l.length (evS lf (o s) (g s) (j s) xs) = _
    rw [h1, h2, h3, evL_is h4]
    rfl
theorem rk_is {lf : Int32 → Int32 → Int32 → Int32} {o g j : Nat → Int32} {l : List ST} {s e : Nat} (h : LdS o g j s l) (he : e = s + l.length) : rkX lf o g j s e = (evs lf l []).headD 0 := by
  rw [rkX, he, Nat.add_sub_cancel_left, evL_is h]
theorem evS_lf {lf : Int32 → Int32 → Int32 → Int32} {op f s : Int32} {xs : List Int32} (h : ¬ (7 : Int32) < op) (hx : xs.length < 400) : evS lf op f s xs = lf op f s :: xs := by
  rw [evS, if_neg h, psh, if_pos hx]
theorem evS_8 {lf : Int32 → Int32 → Int32 → Int32} {x f s : Int32} {xs : List Int32} (hx : xs.length < 400) : evS lf 8 f s (x :: xs) = -x :: xs := by
  show psh (-x) xs = _
  rw [psh, if_pos hx]
theorem evS_9 {lf : Int32 → Int32 → Int32 → Int32} {x f s : Int32} {xs : List Int32} (hx : xs.length < 400) : evS lf 9 f s (x :: xs) = (1 - x) :: xs := by
  show psh (1 - x) xs = _
  rw [psh, if_pos hx]
theorem evS_bi {lf : Int32 → Int32 → Int32 → Int32} {op x y f s z : Int32} {xs : List Int32} (h7 : (7 : Int32) < op) (h9 : (9 : Int32) < op) (hx : xs.length < 400) (hz : (if (16 : Int32) ≤ op then b2i (tsX op x y) else smX op x y) = z) : evS lf op f s (y :: x :: xs) = z :: xs := by
  rw [evS, if_pos h7, if_pos h9]
  show psh (if (16 : Int32) ≤ op then b2i (tsX op x y) else smX op x y) xs = _
  rw [hz, psh, if_pos hx]
theorem dv_m1 (x : Int32) : x / -1 = -x := by
  apply Int32.toInt_inj.mp
  have e : (-1 : Int32).toInt = -1 := rfl
  rw [Int32.toInt_div, e, Int.tdiv_neg, Int.tdiv_one, Int32.toInt_neg]
theorem bi_10 (x y : Int32) : smX 10 x y = twN 7 x y := rfl
theorem bi_11 (x y : Int32) : smX 11 x y = twN 8 x y := rfl
theorem bi_12 (x y : Int32) : smX 12 x y = twN 9 x y := rfl
theorem bi_13 (x y : Int32) : smX 13 x y = twN 10 x y := by
  show (if y = 0 then 0 else x / y) = (if y = 0 then 0 else if y = -1 then -x else x / y)
  by_cases c : y = 0
  · rw [if_pos c, if_pos c]
  · rw [if_neg c, if_neg c]
    by_cases c2 : y = -1
    · rw [if_pos c2, c2, dv_m1]
    · rw [if_neg c2]
theorem bi_14 (x y : Int32) : smX 14 x y = twN 11 x y := by
  show (if y < x then y else x) = (if x < y then x else y)
  by_cases c : y < x
  · rw [if_pos c, if_neg (Int32.lt_asymm c)]
  · rw [if_neg c]
    by_cases c2 : x < y
    · rw [if_pos c2]
    · rw [if_neg c2]
      exact Int32.le_antisymm (Int32.not_lt.mp c) (Int32.not_lt.mp c2)
theorem bi_15 (x y : Int32) : smX 15 x y = twN 12 x y := by
  show (if x < y then y else x) = (if x < y then y else x)
  rfl
theorem b2i_if (c : Prop) [Decidable c] : b2i (decide c) = if c then 1 else 0 := by
  by_cases h : c
  · rw [decide_eq_true h, if_pos h]; rfl
  · rw [decide_eq_false h, if_neg h]; rfl
theorem bi_16 (x y : Int32) : b2i (tsX 16 x y) = twN 20 x y := b2i_if (x < y)
theorem bi_17 (x y : Int32) : b2i (tsX 17 x y) = twN 21 x y := by
  show b2i (decide (y < x)) = if x ≤ y then 0 else 1
  rw [b2i_if]
  by_cases c : y < x
  · rw [if_pos c, if_neg (Int32.not_le.mpr c)]
  · rw [if_neg c, if_pos (Int32.not_lt.mp c)]
theorem bi_18 (x y : Int32) : b2i (tsX 18 x y) = twN 22 x y := b2i_if (x = y)
theorem bi_19 (x y : Int32) : b2i (tsX 19 x y) = twN 23 x y := b2i_if (x ≤ y)
theorem bi_20 (x y : Int32) : b2i (tsX 20 x y) = twN 24 x y := by
  show b2i (decide (y ≤ x)) = if x < y then 0 else 1
  rw [b2i_if]
  by_cases c : x < y
  · rw [if_pos c, if_neg (Int32.not_le.mpr c)]
  · rw [if_neg c, if_pos (Int32.not_lt.mp c)]
theorem bi_21 {x y : Int32} (hx : x = 0 ∨ x = 1) (hy : y = 0 ∨ y = 1) : b2i (tsX 21 x y) = twN 30 x y := by
  rcases hx with rfl | rfl <;> rcases hy with rfl | rfl <;> decide
theorem bi_22 {x y : Int32} (hx : x = 0 ∨ x = 1) (hy : y = 0 ∨ y = 1) : b2i (tsX 22 x y) = twN 31 x y := by
  rcases hx with rfl | rfl <;> rcases hy with rfl | rfl <;> decide
theorem cn_1 (c : Prop) [Decidable c] (a b : Int32) (ha : a = 0 ∨ a = 1) (hb : b = 0 ∨ b = 1) : (if c then a else b) = 0 ∨ (if c then a else b) = 1 := by
  by_cases h : c
  · rw [if_pos h]; exact ha
  · rw [if_neg h]; exact hb
theorem tw_20 (x y : Int32) : twN 20 x y = 0 ∨ twN 20 x y = 1 := cn_1 (x < y) 1 0 (by decide) (by decide)
theorem tw_21 (x y : Int32) : twN 21 x y = 0 ∨ twN 21 x y = 1 := cn_1 (x ≤ y) 0 1 (by decide) (by decide)
theorem tw_22 (x y : Int32) : twN 22 x y = 0 ∨ twN 22 x y = 1 := cn_1 (x = y) 1 0 (by decide) (by decide)
theorem tw_23 (x y : Int32) : twN 23 x y = 0 ∨ twN 23 x y = 1 := cn_1 (x ≤ y) 1 0 (by decide) (by decide)
theorem tw_24 (x y : Int32) : twN 24 x y = 0 ∨ twN 24 x y = 1 := cn_1 (x < y) 0 1 (by decide) (by decide)
theorem tw_30 (x y : Int32) : twN 30 x y = 0 ∨ twN 30 x y = 1 := cn_1 (x + y = 2) 1 0 (by decide) (by decide)
theorem tw_31 (x y : Int32) : twN 31 x y = 0 ∨ twN 31 x y = 1 := cn_1 (x + y ≤ 0) 0 1 (by decide) (by decide)

theorem of_0 {n u : Nat} {dy : Int32} {p h f t : Nat → Nat} {q : TN} (h9 : kN q = 0) : ofN n dy p h f t (u + 1) q = nI (nuQ n q) := by
  rw [ofN, if_neg (by omega), if_neg (by omega), if_neg (by rw [h9]; decide), lfN]
  simp only [h9]
  rfl
theorem of_1 {n u : Nat} {dy : Int32} {p h f t : Nat → Nat} {q : TN} (h9 : kN q = 1) : ofN n dy p h f t (u + 1) q = dy := by
  rw [ofN, if_neg (by omega), if_neg (by omega), if_neg (by rw [h9]; decide), lfN]
  simp only [h9]
  rfl
theorem of_2 {n u : Nat} {dy : Int32} {p h f t : Nat → Nat} {q : TN} (h9 : kN q = 2) : ofN n dy p h f t (u + 1) q = nI (mxN (fun a => loN p h f t n a) n) := by
  rw [ofN, if_neg (by omega), if_neg (by omega), if_neg (by rw [h9]; decide), lfN]
  simp only [h9]
  rfl
theorem of_3 {n u : Nat} {dy : Int32} {p h f t : Nat → Nat} {q : TN} (h9 : kN q = 3) : ofN n dy p h f t (u + 1) q = nI (loN p h f t n (nuQ n q)) := by
  rw [ofN, if_neg (by omega), if_neg (by omega), if_neg (by rw [h9]; decide), lfN]
  simp only [h9]
  rfl
theorem of_4 {n u : Nat} {dy : Int32} {p h f t : Nat → Nat} {q : TN} (h9 : kN q = 4) : ofN n dy p h f t (u + 1) q = nI (caN p h f t n (nuQ n q)) := by
  rw [ofN, if_neg (by omega), if_neg (by omega), if_neg (by rw [h9]; decide), lfN]
  simp only [h9]
  rfl
theorem of_5 {n u : Nat} {dy : Int32} {p h f t : Nat → Nat} {q : TN} (h9 : kN q = 5) : ofN n dy p h f t (u + 1) q = nI (h (nuQ n q)) := by
  rw [ofN, if_neg (by omega), if_neg (by omega), if_neg (by rw [h9]; decide), lfN]
  simp only [h9]
  rfl
theorem of_6 {n u : Nat} {dy : Int32} {p h f t : Nat → Nat} {q : TN} (h9 : kN q = 6) : ofN n dy p h f t (u + 1) q = -(ofN n dy p h f t u (kdA q)) := by
  rw [ofN, if_pos h9]
theorem of_7 {n u : Nat} {dy : Int32} {p h f t : Nat → Nat} {q : TN} (h9 : kN q = 7) : ofN n dy p h f t (u + 1) q = twN 7 (ofN n dy p h f t u (kdA q)) (ofN n dy p h f t u (kdB q)) := by
  rw [ofN, if_neg (by omega), if_neg (by omega), if_pos (by rw [h9]; rfl), h9]
theorem of_8 {n u : Nat} {dy : Int32} {p h f t : Nat → Nat} {q : TN} (h9 : kN q = 8) : ofN n dy p h f t (u + 1) q = twN 8 (ofN n dy p h f t u (kdA q)) (ofN n dy p h f t u (kdB q)) := by
  rw [ofN, if_neg (by omega), if_neg (by omega), if_pos (by rw [h9]; rfl), h9]
theorem of_9 {n u : Nat} {dy : Int32} {p h f t : Nat → Nat} {q : TN} (h9 : kN q = 9) : ofN n dy p h f t (u + 1) q = twN 9 (ofN n dy p h f t u (kdA q)) (ofN n dy p h f t u (kdB q)) := by
  rw [ofN, if_neg (by omega), if_neg (by omega), if_pos (by rw [h9]; rfl), h9]
theorem of_10 {n u : Nat} {dy : Int32} {p h f t : Nat → Nat} {q : TN} (h9 : kN q = 10) : ofN n dy p h f t (u + 1) q = twN 10 (ofN n dy p h f t u (kdA q)) (ofN n dy p h f t u (kdB q)) := by
  rw [ofN, if_neg (by omega), if_neg (by omega), if_pos (by rw [h9]; rfl), h9]
theorem of_11 {n u : Nat} {dy : Int32} {p h f t : Nat → Nat} {q : TN} (h9 : kN q = 11) : ofN n dy p h f t (u + 1) q = twN 11 (ofN n dy p h f t u (kdA q)) (ofN n dy p h f t u (kdB q)) := by
  rw [ofN, if_neg (by omega), if_neg (by omega), if_pos (by rw [h9]; rfl), h9]
theorem of_12 {n u : Nat} {dy : Int32} {p h f t : Nat → Nat} {q : TN} (h9 : kN q = 12) : ofN n dy p h f t (u + 1) q = twN 12 (ofN n dy p h f t u (kdA q)) (ofN n dy p h f t u (kdB q)) := by
  rw [ofN, if_neg (by omega), if_neg (by omega), if_pos (by rw [h9]; rfl), h9]
theorem of_20 {n u : Nat} {dy : Int32} {p h f t : Nat → Nat} {q : TN} (h9 : kN q = 20) : ofN n dy p h f t (u + 1) q = twN 20 (ofN n dy p h f t u (kdA q)) (ofN n dy p h f t u (kdB q)) := by
  rw [ofN, if_neg (by omega), if_neg (by omega), if_pos (by rw [h9]; rfl), h9]
theorem of_21 {n u : Nat} {dy : Int32} {p h f t : Nat → Nat} {q : TN} (h9 : kN q = 21) : ofN n dy p h f t (u + 1) q = twN 21 (ofN n dy p h f t u (kdA q)) (ofN n dy p h f t u (kdB q)) := by
  rw [ofN, if_neg (by omega), if_neg (by omega), if_pos (by rw [h9]; rfl), h9]
theorem of_22 {n u : Nat} {dy : Int32} {p h f t : Nat → Nat} {q : TN} (h9 : kN q = 22) : ofN n dy p h f t (u + 1) q = twN 22 (ofN n dy p h f t u (kdA q)) (ofN n dy p h f t u (kdB q)) := by
  rw [ofN, if_neg (by omega), if_neg (by omega), if_pos (by rw [h9]; rfl), h9]
theorem of_23 {n u : Nat} {dy : Int32} {p h f t : Nat → Nat} {q : TN} (h9 : kN q = 23) : ofN n dy p h f t (u + 1) q = twN 23 (ofN n dy p h f t u (kdA q)) (ofN n dy p h f t u (kdB q)) := by
  rw [ofN, if_neg (by omega), if_neg (by omega), if_pos (by rw [h9]; rfl), h9]
theorem of_24 {n u : Nat} {dy : Int32} {p h f t : Nat → Nat} {q : TN} (h9 : kN q = 24) : ofN n dy p h f t (u + 1) q = twN 24 (ofN n dy p h f t u (kdA q)) (ofN n dy p h f t u (kdB q)) := by
  rw [ofN, if_neg (by omega), if_neg (by omega), if_pos (by rw [h9]; rfl), h9]
theorem of_25 {n u : Nat} {dy : Int32} {p h f t : Nat → Nat} {q : TN} (h9 : kN q = 25) : ofN n dy p h f t (u + 1) q = (if ltN p h f t (otN n q) (nuQ n q) = 0 then 0 else 1) := by
  rw [ofN, if_neg (by omega), if_neg (by omega), if_neg (by rw [h9]; decide), lfN]
  simp only [h9]
  rfl
theorem of_26 {n u : Nat} {dy : Int32} {p h f t : Nat → Nat} {q : TN} (h9 : kN q = 26) : ofN n dy p h f t (u + 1) q = (if loN p h f t n (nuQ n q) = 0 then 0 else 1) := by
  rw [ofN, if_neg (by omega), if_neg (by omega), if_neg (by rw [h9]; decide), lfN]
  simp only [h9]
  rfl
theorem of_29 {n u : Nat} {dy : Int32} {p h f t : Nat → Nat} {q : TN} (h9 : kN q = 29) : ofN n dy p h f t (u + 1) q = 1 - ofN n dy p h f t u (kdA q) := by
  rw [ofN, if_neg (by omega), if_pos h9]
theorem of_30 {n u : Nat} {dy : Int32} {p h f t : Nat → Nat} {q : TN} (h9 : kN q = 30) : ofN n dy p h f t (u + 1) q = twN 30 (ofN n dy p h f t u (kdA q)) (ofN n dy p h f t u (kdB q)) := by
  rw [ofN, if_neg (by omega), if_neg (by omega), if_pos (by rw [h9]; rfl), h9]
theorem of_31 {n u : Nat} {dy : Int32} {p h f t : Nat → Nat} {q : TN} (h9 : kN q = 31) : ofN n dy p h f t (u + 1) q = twN 31 (ofN n dy p h f t u (kdA q)) (ofN n dy p h f t u (kdB q)) := by
  rw [ofN, if_neg (by omega), if_neg (by omega), if_pos (by rw [h9]; rfl), h9]
theorem of_01 {n : Nat} {dy : Int32} {p h f t : Nat → Nat} : ∀ (u : Nat) (q : TN), q.1 = true → WfT u q → ofN n dy p h f t u q = 0 ∨ ofN n dy p h f t u q = 1
  | 0, _, _, hw => (wf_0 hw).elim
  | u + 1, q, hq, hw => by
    rcases kN_t hq with h9 | h9 | h9 | h9 | h9 | h9 | h9 | h9 | h9 | h9
    · rw [of_20 h9]
      exact tw_20 _ _
    · rw [of_21 h9]
      exact tw_21 _ _
    · rw [of_22 h9]
      exact tw_22 _ _
    · rw [of_23 h9]
      exact tw_23 _ _
    · rw [of_24 h9]
      exact tw_24 _ _
    · rw [of_25 h9]
      exact cn_1 _ _ _ (by decide) (by decide)
    · rw [of_26 h9]
      exact cn_1 _ _ _ (by decide) (by decide)
    · rw [of_29 h9]
      rcases of_01 u (kdA q) (kd_t hq (by omega)).1 (wf_A hw (by rw [h9]; decide)) with e | e <;> rw [e] <;> decide
    · rw [of_30 h9]
      exact tw_30 _ _
    · rw [of_31 h9]
      exact tw_31 _ _
theorem kt_of {q : TN} (h : 20 ≤ kN q) : q.1 = true := by
  obtain ⟨b, x, d⟩ := q
  cases b with
  | true => rfl
  | false =>
    have e : kN (false, x, d) = kS x d := rfl
    have := kS_lt x d
    omega
variable {N : Nat} {P H F T : Nat → Int32} {p h f t : Nat → Nat}
theorem mo_b (e : EqS N P H F T p h f t) (ok : SnOk N p h f t) : ∀ n, n ≤ N → mostN (dkG N P H F T) n = nI (mxN (fun a => loN p h f t N a) n)
  | 0, _ => rfl
  | n + 1, hn => by
    have h1 : mxN (fun a => loN p h f t N a) n ≤ 13 := mxN_le (fun i _ => cnN_le _ 13)
    have h2 : loN p h f t N n ≤ 13 := cnN_le _ 13
    rw [mostN, mo_b e ok n (by omega), lo_b e ok (by omega), mxN, maxI]
    by_cases c : mxN (fun a => loN p h f t N a) n < loN p h f t N n
    · rw [if_pos c, if_pos (by rw [Int32.lt_iff_toInt_lt, nI_toInt (by omega), nI_toInt (by omega)]; omega)]
    · rw [if_neg c, if_neg (by rw [Int32.lt_iff_toInt_lt, nI_toInt (by omega), nI_toInt (by omega)]; omega)]
theorem ls_b (e : EqS N P H F T p h f t) (ok : SnOk N p h f t) {a : Nat} (ha : a < N) : lsG N P H F T (nI a) = nI (loN p h f t N a) := by
  have := ok.1
  rw [lsG, stAt_nI ha (by omega), lo_b e ok ha]
theorem nz_b {x : Nat} (hx : x < 100) : b2i (!decide (nI x = 0)) = if x = 0 then 0 else 1 := by
  by_cases c : x = 0
  · rw [if_pos c, c]; rfl
  · rw [if_neg c]
    have h1 : ¬ nI x = 0 := fun q => c ((nI_eq (b := 0) (by omega) (by decide)).mp q)
    rw [decide_eq_false h1]
    rfl
theorem bs_z {y : Nat → Bool} : bsB y 13 = 0 ↔ cnN y 13 = 0 := by
  constructor
  · intro h9
    have e := bitC_bs y
    have h1 : cnN y 13 ≤ 13 := cnN_le y 13
    rw [h9] at e
    have e2 : bitC 0 = nI 0 := by decide
    rw [e2] at e
    exact ((nI_eq (by decide) (by omega)).mp e).symm
  · intro h9
    have key : ∀ n, cnN y n = 0 → ∀ j, j < n → y j = false := by
      intro n
      induction n with
      | zero => intro _ j hj; exact absurd hj (Nat.not_lt_zero _)
      | succ n ih =>
        intro h8 j hj
        rw [cnN_s] at h8
        rcases Nat.eq_or_lt_of_le (Nat.le_of_lt_succ hj) with c | c
        · rw [c]
          cases h7 : y n with
          | false => rfl
          | true => rw [h7] at h8; simp [b2n] at h8
        · exact ih (by omega) j c
    rw [bsB_cong (z := fun _ => false) (key 13 h9)]
    decide
theorem sh_n (e : EqS N P H F T p h f t) (ok : SnOk N p h f t) {a b : Nat} (ha : a < N) (hb : b < N) : b2i (!decide (shX N P H F T (nI a) (nI b) = 0)) = if ltN p h f t a b = 0 then 0 else 1 := by
  have h1 := ok.1
  rw [shX_b (by omega) ha hb, sh_b e ok ha hb]
  have e2 := lt_b e ok ha hb
  rw [sh_b e ok ha hb, bitC_bs] at e2
  have h2 : cnN (fun j => shB p h f t b a (6 + j)) 13 ≤ 13 := cnN_le _ 13
  have h3 : ltN p h f t a b ≤ 24 := ltN_le p h f t a b
  have e3 : cnN (fun j => shB p h f t b a (6 + j)) 13 = ltN p h f t a b := (nI_eq (by omega) (by omega)).mp e2
  by_cases c : ltN p h f t a b = 0
  · rw [if_pos c, decide_eq_true (bs_z.mpr (e3.trans c))]
    rfl
  · rw [if_neg c, decide_eq_false (fun q => c (e3.symm.trans (bs_z.mp q)))]
    rfl
theorem lfG_0 {dg f9 s9 : Int32} : lfG N dg P H F T 0 f9 s9 = f9 := by
  rw [lfG, if_pos rfl]
theorem lfG_1 {dg f9 s9 : Int32} : lfG N dg P H F T 1 f9 s9 = dg := by
  rw [lfG, if_neg (by decide), if_pos rfl]
theorem lfG_2 {dg f9 s9 : Int32} : lfG N dg P H F T 2 f9 s9 = mostN (dkG N P H F T) N := by
  rw [lfG, if_neg (by decide), if_neg (by decide), if_pos rfl]
theorem lfG_3 {dg f9 s9 : Int32} : lfG N dg P H F T 3 f9 s9 = lsG N P H F T f9 := by
  rw [lfG, if_neg (by decide), if_neg (by decide), if_neg (by decide), if_pos rfl]
theorem lfG_4 {dg f9 s9 : Int32} : lfG N dg P H F T 4 f9 s9 = stAt (nI N) f9 (csG N P H F T) 0 := by
  rw [lfG, if_neg (by decide), if_neg (by decide), if_neg (by decide), if_neg (by decide), if_pos rfl]
theorem lfG_5 {dg f9 s9 : Int32} : lfG N dg P H F T 5 f9 s9 = stAt (nI N) f9 H 0 := by
  rw [lfG, if_neg (by decide), if_neg (by decide), if_neg (by decide), if_neg (by decide), if_neg (by decide), if_pos rfl]
theorem lfG_6 {dg f9 s9 : Int32} : lfG N dg P H F T 6 f9 s9 = b2i (!decide (shX N P H F T s9 f9 = 0)) := by
  rw [lfG, if_neg (by decide), if_neg (by decide), if_neg (by decide), if_neg (by decide), if_neg (by decide), if_neg (by decide), if_pos rfl]
theorem lfG_7 {dg f9 s9 : Int32} : lfG N dg P H F T 7 f9 s9 = b2i (!decide (lsG N P H F T f9 = 0)) := by
  rw [lfG, if_neg (by decide), if_neg (by decide), if_neg (by decide), if_neg (by decide), if_neg (by decide), if_neg (by decide), if_neg (by decide)]
theorem ev_0 (e : EqS N P H F T p h f t) (ok : SnOk N p h f t) (hN : 0 < N) {dy : Int32} {u : Nat} {q : TN} {xs : List Int32} (hx : xs.length + (u + 1) ≤ 400) (h9 : kN q = 0)   : evs (lfG N dy P H F T) (stL N (u + 1) q) xs = ofN N dy p h f t (u + 1) q :: xs := by
  have hN12 := ok.1
  have hx4 : xs.length < 400 := by omega
  have nl : ¬ kN q = 0 → nuQ N q < N := fun c => nm_lt hN c
  have ol : otN N q < N := ot_lt hN q
  rw [sl_0 h9, of_0 h9]
  rw [evs, evs, evS_lf (by show ¬ (7 : Int32) < 0; decide) hx4]
  dsimp only
  rw [lfG_0]
theorem ev_1 (e : EqS N P H F T p h f t) (ok : SnOk N p h f t) (hN : 0 < N) {dy : Int32} {u : Nat} {q : TN} {xs : List Int32} (hx : xs.length + (u + 1) ≤ 400) (h9 : kN q = 1)   : evs (lfG N dy P H F T) (stL N (u + 1) q) xs = ofN N dy p h f t (u + 1) q :: xs := by
  have hN12 := ok.1
  have hx4 : xs.length < 400 := by omega
  have nl : ¬ kN q = 0 → nuQ N q < N := fun c => nm_lt hN c
  have ol : otN N q < N := ot_lt hN q
  rw [sl_1 h9, of_1 h9]
  rw [evs, evs, evS_lf (by show ¬ (7 : Int32) < 1; decide) hx4]
  dsimp only
  rw [lfG_1]
theorem ev_2 (e : EqS N P H F T p h f t) (ok : SnOk N p h f t) (hN : 0 < N) {dy : Int32} {u : Nat} {q : TN} {xs : List Int32} (hx : xs.length + (u + 1) ≤ 400) (h9 : kN q = 2)   : evs (lfG N dy P H F T) (stL N (u + 1) q) xs = ofN N dy p h f t (u + 1) q :: xs := by
  have hN12 := ok.1
  have hx4 : xs.length < 400 := by omega
  have nl : ¬ kN q = 0 → nuQ N q < N := fun c => nm_lt hN c
  have ol : otN N q < N := ot_lt hN q
  rw [sl_2 h9, of_2 h9]
  rw [evs, evs, evS_lf (by show ¬ (7 : Int32) < 2; decide) hx4]
  dsimp only
  rw [lfG_2]
  rw [mo_b e ok N (Nat.le_refl _)]
theorem ev_3 (e : EqS N P H F T p h f t) (ok : SnOk N p h f t) (hN : 0 < N) {dy : Int32} {u : Nat} {q : TN} {xs : List Int32} (hx : xs.length + (u + 1) ≤ 400) (h9 : kN q = 3)   : evs (lfG N dy P H F T) (stL N (u + 1) q) xs = ofN N dy p h f t (u + 1) q :: xs := by
  have hN12 := ok.1
  have hx4 : xs.length < 400 := by omega
  have nl : ¬ kN q = 0 → nuQ N q < N := fun c => nm_lt hN c
  have ol : otN N q < N := ot_lt hN q
  rw [sl_3 h9, of_3 h9]
  rw [evs, evs, evS_lf (by show ¬ (7 : Int32) < 3; decide) hx4]
  dsimp only
  rw [lfG_3]
  rw [ls_b e ok (nl (by omega))]
theorem ev_4 (e : EqS N P H F T p h f t) (ok : SnOk N p h f t) (hN : 0 < N) {dy : Int32} {u : Nat} {q : TN} {xs : List Int32} (hx : xs.length + (u + 1) ≤ 400) (h9 : kN q = 4)   : evs (lfG N dy P H F T) (stL N (u + 1) q) xs = ofN N dy p h f t (u + 1) q :: xs := by
  have hN12 := ok.1
  have hx4 : xs.length < 400 := by omega
  have nl : ¬ kN q = 0 → nuQ N q < N := fun c => nm_lt hN c
  have ol : otN N q < N := ot_lt hN q
  rw [sl_4 h9, of_4 h9]
  rw [evs, evs, evS_lf (by show ¬ (7 : Int32) < 4; decide) hx4]
  dsimp only
  rw [lfG_4]
  rw [stAt_nI (nl (by omega)) (by omega), ca_b e ok (nl (by omega))]
theorem ev_5 (e : EqS N P H F T p h f t) (ok : SnOk N p h f t) (hN : 0 < N) {dy : Int32} {u : Nat} {q : TN} {xs : List Int32} (hx : xs.length + (u + 1) ≤ 400) (h9 : kN q = 5)   : evs (lfG N dy P H F T) (stL N (u + 1) q) xs = ofN N dy p h f t (u + 1) q :: xs := by
  have hN12 := ok.1
  have hx4 : xs.length < 400 := by omega
  have nl : ¬ kN q = 0 → nuQ N q < N := fun c => nm_lt hN c
  have ol : otN N q < N := ot_lt hN q
  rw [sl_5 h9, of_5 h9]
  rw [evs, evs, evS_lf (by show ¬ (7 : Int32) < 5; decide) hx4]
  dsimp only
  rw [lfG_5]
  rw [stAt_nI (nl (by omega)) (by omega), (e _ (nl (by omega))).2.1]
theorem ev_6 (e : EqS N P H F T p h f t) (ok : SnOk N p h f t) (hN : 0 < N) {dy : Int32} {u : Nat} {q : TN} {xs : List Int32} (hx : xs.length + (u + 1) ≤ 400) (h9 : kN q = 6) (iA : ∀ ys : List Int32, ys.length + u ≤ 400 → evs (lfG N dy P H F T) (stL N u (kdA q)) ys = ofN N dy p h f t u (kdA q) :: ys) (iB : ∀ ys : List Int32, ys.length + u ≤ 400 → evs (lfG N dy P H F T) (stL N u (kdB q)) ys = ofN N dy p h f t u (kdB q) :: ys)  : evs (lfG N dy P H F T) (stL N (u + 1) q) xs = ofN N dy p h f t (u + 1) q :: xs := by
  have hN12 := ok.1
  have hx4 : xs.length < 400 := by omega
  have nl : ¬ kN q = 0 → nuQ N q < N := fun c => nm_lt hN c
  have ol : otN N q < N := ot_lt hN q
  rw [sl_6 h9, of_6 h9]
  rw [evs_app, iA xs (by omega), evs, evs]
  exact evS_8 (lf := lfG N dy P H F T) (f := 0) (s := 0) hx4
theorem ev_7 (e : EqS N P H F T p h f t) (ok : SnOk N p h f t) (hN : 0 < N) {dy : Int32} {u : Nat} {q : TN} {xs : List Int32} (hx : xs.length + (u + 1) ≤ 400) (h9 : kN q = 7) (iA : ∀ ys : List Int32, ys.length + u ≤ 400 → evs (lfG N dy P H F T) (stL N u (kdA q)) ys = ofN N dy p h f t u (kdA q) :: ys) (iB : ∀ ys : List Int32, ys.length + u ≤ 400 → evs (lfG N dy P H F T) (stL N u (kdB q)) ys = ofN N dy p h f t u (kdB q) :: ys)  : evs (lfG N dy P H F T) (stL N (u + 1) q) xs = ofN N dy p h f t (u + 1) q :: xs := by
  have hN12 := ok.1
  have hx4 : xs.length < 400 := by omega
  have nl : ¬ kN q = 0 → nuQ N q < N := fun c => nm_lt hN c
  have ol : otN N q < N := ot_lt hN q
  rw [sl_7 h9, of_7 h9]
  have hz : (if (16 : Int32) ≤ 10 then b2i (tsX 10 (ofN N dy p h f t u (kdA q)) (ofN N dy p h f t u (kdB q))) else smX 10 (ofN N dy p h f t u (kdA q)) (ofN N dy p h f t u (kdB q))) = twN 7 (ofN N dy p h f t u (kdA q)) (ofN N dy p h f t u (kdB q)) := by
    rw [if_neg (by decide)]
    exact bi_10 _ _
  rw [evs_app, evs_app, iA xs (by omega), iB (_ :: xs) (by simp only [List.length_cons]; omega), evs, evs]
  exact evS_bi (lf := lfG N dy P H F T) (f := 0) (s := 0) (by decide) (by decide) hx4 hz
theorem ev_8 (e : EqS N P H F T p h f t) (ok : SnOk N p h f t) (hN : 0 < N) {dy : Int32} {u : Nat} {q : TN} {xs : List Int32} (hx : xs.length + (u + 1) ≤ 400) (h9 : kN q = 8) (iA : ∀ ys : List Int32, ys.length + u ≤ 400 → evs (lfG N dy P H F T) (stL N u (kdA q)) ys = ofN N dy p h f t u (kdA q) :: ys) (iB : ∀ ys : List Int32, ys.length + u ≤ 400 → evs (lfG N dy P H F T) (stL N u (kdB q)) ys = ofN N dy p h f t u (kdB q) :: ys)  : evs (lfG N dy P H F T) (stL N (u + 1) q) xs = ofN N dy p h f t (u + 1) q :: xs := by
  have hN12 := ok.1
  have hx4 : xs.length < 400 := by omega
  have nl : ¬ kN q = 0 → nuQ N q < N := fun c => nm_lt hN c
  have ol : otN N q < N := ot_lt hN q
  rw [sl_8 h9, of_8 h9]
  have hz : (if (16 : Int32) ≤ 11 then b2i (tsX 11 (ofN N dy p h f t u (kdA q)) (ofN N dy p h f t u (kdB q))) else smX 11 (ofN N dy p h f t u (kdA q)) (ofN N dy p h f t u (kdB q))) = twN 8 (ofN N dy p h f t u (kdA q)) (ofN N dy p h f t u (kdB q)) := by
    rw [if_neg (by decide)]
    exact bi_11 _ _
  rw [evs_app, evs_app, iA xs (by omega), iB (_ :: xs) (by simp only [List.length_cons]; omega), evs, evs]
  exact evS_bi (lf := lfG N dy P H F T) (f := 0) (s := 0) (by decide) (by decide) hx4 hz
theorem ev_9 (e : EqS N P H F T p h f t) (ok : SnOk N p h f t) (hN : 0 < N) {dy : Int32} {u : Nat} {q : TN} {xs : List Int32} (hx : xs.length + (u + 1) ≤ 400) (h9 : kN q = 9) (iA : ∀ ys : List Int32, ys.length + u ≤ 400 → evs (lfG N dy P H F T) (stL N u (kdA q)) ys = ofN N dy p h f t u (kdA q) :: ys) (iB : ∀ ys : List Int32, ys.length + u ≤ 400 → evs (lfG N dy P H F T) (stL N u (kdB q)) ys = ofN N dy p h f t u (kdB q) :: ys)  : evs (lfG N dy P H F T) (stL N (u + 1) q) xs = ofN N dy p h f t (u + 1) q :: xs := by
  have hN12 := ok.1
  have hx4 : xs.length < 400 := by omega
  have nl : ¬ kN q = 0 → nuQ N q < N := fun c => nm_lt hN c
  have ol : otN N q < N := ot_lt hN q
  rw [sl_9 h9, of_9 h9]
  have hz : (if (16 : Int32) ≤ 12 then b2i (tsX 12 (ofN N dy p h f t u (kdA q)) (ofN N dy p h f t u (kdB q))) else smX 12 (ofN N dy p h f t u (kdA q)) (ofN N dy p h f t u (kdB q))) = twN 9 (ofN N dy p h f t u (kdA q)) (ofN N dy p h f t u (kdB q)) := by
    rw [if_neg (by decide)]
    exact bi_12 _ _
  rw [evs_app, evs_app, iA xs (by omega), iB (_ :: xs) (by simp only [List.length_cons]; omega), evs, evs]
  exact evS_bi (lf := lfG N dy P H F T) (f := 0) (s := 0) (by decide) (by decide) hx4 hz
theorem ev_10 (e : EqS N P H F T p h f t) (ok : SnOk N p h f t) (hN : 0 < N) {dy : Int32} {u : Nat} {q : TN} {xs : List Int32} (hx : xs.length + (u + 1) ≤ 400) (h9 : kN q = 10) (iA : ∀ ys : List Int32, ys.length + u ≤ 400 → evs (lfG N dy P H F T) (stL N u (kdA q)) ys = ofN N dy p h f t u (kdA q) :: ys) (iB : ∀ ys : List Int32, ys.length + u ≤ 400 → evs (lfG N dy P H F T) (stL N u (kdB q)) ys = ofN N dy p h f t u (kdB q) :: ys)  : evs (lfG N dy P H F T) (stL N (u + 1) q) xs = ofN N dy p h f t (u + 1) q :: xs := by
  have hN12 := ok.1
  have hx4 : xs.length < 400 := by omega
  have nl : ¬ kN q = 0 → nuQ N q < N := fun c => nm_lt hN c
  have ol : otN N q < N := ot_lt hN q
  rw [sl_10 h9, of_10 h9]
  have hz : (if (16 : Int32) ≤ 13 then b2i (tsX 13 (ofN N dy p h f t u (kdA q)) (ofN N dy p h f t u (kdB q))) else smX 13 (ofN N dy p h f t u (kdA q)) (ofN N dy p h f t u (kdB q))) = twN 10 (ofN N dy p h f t u (kdA q)) (ofN N dy p h f t u (kdB q)) := by
    rw [if_neg (by decide)]
    exact bi_13 _ _
  rw [evs_app, evs_app, iA xs (by omega), iB (_ :: xs) (by simp only [List.length_cons]; omega), evs, evs]
  exact evS_bi (lf := lfG N dy P H F T) (f := 0) (s := 0) (by decide) (by decide) hx4 hz
theorem ev_11 (e : EqS N P H F T p h f t) (ok : SnOk N p h f t) (hN : 0 < N) {dy : Int32} {u : Nat} {q : TN} {xs : List Int32} (hx : xs.length + (u + 1) ≤ 400) (h9 : kN q = 11) (iA : ∀ ys : List Int32, ys.length + u ≤ 400 → evs (lfG N dy P H F T) (stL N u (kdA q)) ys = ofN N dy p h f t u (kdA q) :: ys) (iB : ∀ ys : List Int32, ys.length + u ≤ 400 → evs (lfG N dy P H F T) (stL N u (kdB q)) ys = ofN N dy p h f t u (kdB q) :: ys)  : evs (lfG N dy P H F T) (stL N (u + 1) q) xs = ofN N dy p h f t (u + 1) q :: xs := by
  have hN12 := ok.1
  have hx4 : xs.length < 400 := by omega
  have nl : ¬ kN q = 0 → nuQ N q < N := fun c => nm_lt hN c
  have ol : otN N q < N := ot_lt hN q
  rw [sl_11 h9, of_11 h9]
  have hz : (if (16 : Int32) ≤ 14 then b2i (tsX 14 (ofN N dy p h f t u (kdA q)) (ofN N dy p h f t u (kdB q))) else smX 14 (ofN N dy p h f t u (kdA q)) (ofN N dy p h f t u (kdB q))) = twN 11 (ofN N dy p h f t u (kdA q)) (ofN N dy p h f t u (kdB q)) := by
    rw [if_neg (by decide)]
    exact bi_14 _ _
  rw [evs_app, evs_app, iA xs (by omega), iB (_ :: xs) (by simp only [List.length_cons]; omega), evs, evs]
  exact evS_bi (lf := lfG N dy P H F T) (f := 0) (s := 0) (by decide) (by decide) hx4 hz
theorem ev_12 (e : EqS N P H F T p h f t) (ok : SnOk N p h f t) (hN : 0 < N) {dy : Int32} {u : Nat} {q : TN} {xs : List Int32} (hx : xs.length + (u + 1) ≤ 400) (h9 : kN q = 12) (iA : ∀ ys : List Int32, ys.length + u ≤ 400 → evs (lfG N dy P H F T) (stL N u (kdA q)) ys = ofN N dy p h f t u (kdA q) :: ys) (iB : ∀ ys : List Int32, ys.length + u ≤ 400 → evs (lfG N dy P H F T) (stL N u (kdB q)) ys = ofN N dy p h f t u (kdB q) :: ys)  : evs (lfG N dy P H F T) (stL N (u + 1) q) xs = ofN N dy p h f t (u + 1) q :: xs := by
  have hN12 := ok.1
  have hx4 : xs.length < 400 := by omega
  have nl : ¬ kN q = 0 → nuQ N q < N := fun c => nm_lt hN c
  have ol : otN N q < N := ot_lt hN q
  rw [sl_12 h9, of_12 h9]
  have hz : (if (16 : Int32) ≤ 15 then b2i (tsX 15 (ofN N dy p h f t u (kdA q)) (ofN N dy p h f t u (kdB q))) else smX 15 (ofN N dy p h f t u (kdA q)) (ofN N dy p h f t u (kdB q))) = twN 12 (ofN N dy p h f t u (kdA q)) (ofN N dy p h f t u (kdB q)) := by
    rw [if_neg (by decide)]
    exact bi_15 _ _
  rw [evs_app, evs_app, iA xs (by omega), iB (_ :: xs) (by simp only [List.length_cons]; omega), evs, evs]
  exact evS_bi (lf := lfG N dy P H F T) (f := 0) (s := 0) (by decide) (by decide) hx4 hz
theorem ev_20 (e : EqS N P H F T p h f t) (ok : SnOk N p h f t) (hN : 0 < N) {dy : Int32} {u : Nat} {q : TN} {xs : List Int32} (hx : xs.length + (u + 1) ≤ 400) (h9 : kN q = 20) (iA : ∀ ys : List Int32, ys.length + u ≤ 400 → evs (lfG N dy P H F T) (stL N u (kdA q)) ys = ofN N dy p h f t u (kdA q) :: ys) (iB : ∀ ys : List Int32, ys.length + u ≤ 400 → evs (lfG N dy P H F T) (stL N u (kdB q)) ys = ofN N dy p h f t u (kdB q) :: ys)  : evs (lfG N dy P H F T) (stL N (u + 1) q) xs = ofN N dy p h f t (u + 1) q :: xs := by
  have hN12 := ok.1
  have hx4 : xs.length < 400 := by omega
  have nl : ¬ kN q = 0 → nuQ N q < N := fun c => nm_lt hN c
  have ol : otN N q < N := ot_lt hN q
  rw [sl_20 h9, of_20 h9]
  have hz : (if (16 : Int32) ≤ 16 then b2i (tsX 16 (ofN N dy p h f t u (kdA q)) (ofN N dy p h f t u (kdB q))) else smX 16 (ofN N dy p h f t u (kdA q)) (ofN N dy p h f t u (kdB q))) = twN 20 (ofN N dy p h f t u (kdA q)) (ofN N dy p h f t u (kdB q)) := by
    rw [if_pos (by decide)]
    exact bi_16 _ _
  rw [evs_app, evs_app, iA xs (by omega), iB (_ :: xs) (by simp only [List.length_cons]; omega), evs, evs]
  exact evS_bi (lf := lfG N dy P H F T) (f := 0) (s := 0) (by decide) (by decide) hx4 hz
theorem ev_21 (e : EqS N P H F T p h f t) (ok : SnOk N p h f t) (hN : 0 < N) {dy : Int32} {u : Nat} {q : TN} {xs : List Int32} (hx : xs.length + (u + 1) ≤ 400) (h9 : kN q = 21) (iA : ∀ ys : List Int32, ys.length + u ≤ 400 → evs (lfG N dy P H F T) (stL N u (kdA q)) ys = ofN N dy p h f t u (kdA q) :: ys) (iB : ∀ ys : List Int32, ys.length + u ≤ 400 → evs (lfG N dy P H F T) (stL N u (kdB q)) ys = ofN N dy p h f t u (kdB q) :: ys)  : evs (lfG N dy P H F T) (stL N (u + 1) q) xs = ofN N dy p h f t (u + 1) q :: xs := by
  have hN12 := ok.1
  have hx4 : xs.length < 400 := by omega
  have nl : ¬ kN q = 0 → nuQ N q < N := fun c => nm_lt hN c
  have ol : otN N q < N := ot_lt hN q
  rw [sl_21 h9, of_21 h9]
  have hz : (if (16 : Int32) ≤ 17 then b2i (tsX 17 (ofN N dy p h f t u (kdA q)) (ofN N dy p h f t u (kdB q))) else smX 17 (ofN N dy p h f t u (kdA q)) (ofN N dy p h f t u (kdB q))) = twN 21 (ofN N dy p h f t u (kdA q)) (ofN N dy p h f t u (kdB q)) := by
    rw [if_pos (by decide)]
    exact bi_17 _ _
  rw [evs_app, evs_app, iA xs (by omega), iB (_ :: xs) (by simp only [List.length_cons]; omega), evs, evs]
  exact evS_bi (lf := lfG N dy P H F T) (f := 0) (s := 0) (by decide) (by decide) hx4 hz
theorem ev_22 (e : EqS N P H F T p h f t) (ok : SnOk N p h f t) (hN : 0 < N) {dy : Int32} {u : Nat} {q : TN} {xs : List Int32} (hx : xs.length + (u + 1) ≤ 400) (h9 : kN q = 22) (iA : ∀ ys : List Int32, ys.length + u ≤ 400 → evs (lfG N dy P H F T) (stL N u (kdA q)) ys = ofN N dy p h f t u (kdA q) :: ys) (iB : ∀ ys : List Int32, ys.length + u ≤ 400 → evs (lfG N dy P H F T) (stL N u (kdB q)) ys = ofN N dy p h f t u (kdB q) :: ys)  : evs (lfG N dy P H F T) (stL N (u + 1) q) xs = ofN N dy p h f t (u + 1) q :: xs := by
  have hN12 := ok.1
  have hx4 : xs.length < 400 := by omega
  have nl : ¬ kN q = 0 → nuQ N q < N := fun c => nm_lt hN c
  have ol : otN N q < N := ot_lt hN q
  rw [sl_22 h9, of_22 h9]
  have hz : (if (16 : Int32) ≤ 18 then b2i (tsX 18 (ofN N dy p h f t u (kdA q)) (ofN N dy p h f t u (kdB q))) else smX 18 (ofN N dy p h f t u (kdA q)) (ofN N dy p h f t u (kdB q))) = twN 22 (ofN N dy p h f t u (kdA q)) (ofN N dy p h f t u (kdB q)) := by
    rw [if_pos (by decide)]
    exact bi_18 _ _
  rw [evs_app, evs_app, iA xs (by omega), iB (_ :: xs) (by simp only [List.length_cons]; omega), evs, evs]
  exact evS_bi (lf := lfG N dy P H F T) (f := 0) (s := 0) (by decide) (by decide) hx4 hz
theorem ev_23 (e : EqS N P H F T p h f t) (ok : SnOk N p h f t) (hN : 0 < N) {dy : Int32} {u : Nat} {q : TN} {xs : List Int32} (hx : xs.length + (u + 1) ≤ 400) (h9 : kN q = 23) (iA : ∀ ys : List Int32, ys.length + u ≤ 400 → evs (lfG N dy P H F T) (stL N u (kdA q)) ys = ofN N dy p h f t u (kdA q) :: ys) (iB : ∀ ys : List Int32, ys.length + u ≤ 400 → evs (lfG N dy P H F T) (stL N u (kdB q)) ys = ofN N dy p h f t u (kdB q) :: ys)  : evs (lfG N dy P H F T) (stL N (u + 1) q) xs = ofN N dy p h f t (u + 1) q :: xs := by
  have hN12 := ok.1
  have hx4 : xs.length < 400 := by omega
  have nl : ¬ kN q = 0 → nuQ N q < N := fun c => nm_lt hN c
  have ol : otN N q < N := ot_lt hN q
  rw [sl_23 h9, of_23 h9]
  have hz : (if (16 : Int32) ≤ 19 then b2i (tsX 19 (ofN N dy p h f t u (kdA q)) (ofN N dy p h f t u (kdB q))) else smX 19 (ofN N dy p h f t u (kdA q)) (ofN N dy p h f t u (kdB q))) = twN 23 (ofN N dy p h f t u (kdA q)) (ofN N dy p h f t u (kdB q)) := by
    rw [if_pos (by decide)]
    exact bi_19 _ _
  rw [evs_app, evs_app, iA xs (by omega), iB (_ :: xs) (by simp only [List.length_cons]; omega), evs, evs]
  exact evS_bi (lf := lfG N dy P H F T) (f := 0) (s := 0) (by decide) (by decide) hx4 hz
theorem ev_24 (e : EqS N P H F T p h f t) (ok : SnOk N p h f t) (hN : 0 < N) {dy : Int32} {u : Nat} {q : TN} {xs : List Int32} (hx : xs.length + (u + 1) ≤ 400) (h9 : kN q = 24) (iA : ∀ ys : List Int32, ys.length + u ≤ 400 → evs (lfG N dy P H F T) (stL N u (kdA q)) ys = ofN N dy p h f t u (kdA q) :: ys) (iB : ∀ ys : List Int32, ys.length + u ≤ 400 → evs (lfG N dy P H F T) (stL N u (kdB q)) ys = ofN N dy p h f t u (kdB q) :: ys)  : evs (lfG N dy P H F T) (stL N (u + 1) q) xs = ofN N dy p h f t (u + 1) q :: xs := by
  have hN12 := ok.1
  have hx4 : xs.length < 400 := by omega
  have nl : ¬ kN q = 0 → nuQ N q < N := fun c => nm_lt hN c
  have ol : otN N q < N := ot_lt hN q
  rw [sl_24 h9, of_24 h9]
  have hz : (if (16 : Int32) ≤ 20 then b2i (tsX 20 (ofN N dy p h f t u (kdA q)) (ofN N dy p h f t u (kdB q))) else smX 20 (ofN N dy p h f t u (kdA q)) (ofN N dy p h f t u (kdB q))) = twN 24 (ofN N dy p h f t u (kdA q)) (ofN N dy p h f t u (kdB q)) := by
    rw [if_pos (by decide)]
    exact bi_20 _ _
  rw [evs_app, evs_app, iA xs (by omega), iB (_ :: xs) (by simp only [List.length_cons]; omega), evs, evs]
  exact evS_bi (lf := lfG N dy P H F T) (f := 0) (s := 0) (by decide) (by decide) hx4 hz
theorem ev_25 (e : EqS N P H F T p h f t) (ok : SnOk N p h f t) (hN : 0 < N) {dy : Int32} {u : Nat} {q : TN} {xs : List Int32} (hx : xs.length + (u + 1) ≤ 400) (h9 : kN q = 25)   : evs (lfG N dy P H F T) (stL N (u + 1) q) xs = ofN N dy p h f t (u + 1) q :: xs := by
  have hN12 := ok.1
  have hx4 : xs.length < 400 := by omega
  have nl : ¬ kN q = 0 → nuQ N q < N := fun c => nm_lt hN c
  have ol : otN N q < N := ot_lt hN q
  rw [sl_25 h9, of_25 h9]
  rw [evs, evs, evS_lf (by show ¬ (7 : Int32) < 6; decide) hx4]
  dsimp only
  rw [lfG_6]
  rw [sh_n e ok ol (nl (by omega))]
theorem ev_26 (e : EqS N P H F T p h f t) (ok : SnOk N p h f t) (hN : 0 < N) {dy : Int32} {u : Nat} {q : TN} {xs : List Int32} (hx : xs.length + (u + 1) ≤ 400) (h9 : kN q = 26)   : evs (lfG N dy P H F T) (stL N (u + 1) q) xs = ofN N dy p h f t (u + 1) q :: xs := by
  have hN12 := ok.1
  have hx4 : xs.length < 400 := by omega
  have nl : ¬ kN q = 0 → nuQ N q < N := fun c => nm_lt hN c
  have ol : otN N q < N := ot_lt hN q
  rw [sl_26 h9, of_26 h9]
  rw [evs, evs, evS_lf (by show ¬ (7 : Int32) < 7; decide) hx4]
  dsimp only
  rw [lfG_7]
  have h13 : loN p h f t N (nuQ N q) ≤ 13 := cnN_le _ 13
  rw [ls_b e ok (nl (by omega)), nz_b (by omega)]
theorem ev_29 (e : EqS N P H F T p h f t) (ok : SnOk N p h f t) (hN : 0 < N) {dy : Int32} {u : Nat} {q : TN} {xs : List Int32} (hx : xs.length + (u + 1) ≤ 400) (h9 : kN q = 29) (iA : ∀ ys : List Int32, ys.length + u ≤ 400 → evs (lfG N dy P H F T) (stL N u (kdA q)) ys = ofN N dy p h f t u (kdA q) :: ys) (iB : ∀ ys : List Int32, ys.length + u ≤ 400 → evs (lfG N dy P H F T) (stL N u (kdB q)) ys = ofN N dy p h f t u (kdB q) :: ys)  : evs (lfG N dy P H F T) (stL N (u + 1) q) xs = ofN N dy p h f t (u + 1) q :: xs := by
  have hN12 := ok.1
  have hx4 : xs.length < 400 := by omega
  have nl : ¬ kN q = 0 → nuQ N q < N := fun c => nm_lt hN c
  have ol : otN N q < N := ot_lt hN q
  rw [sl_29 h9, of_29 h9]
  rw [evs_app, iA xs (by omega), evs, evs]
  exact evS_9 (lf := lfG N dy P H F T) (f := 0) (s := 0) hx4
theorem ev_30 (e : EqS N P H F T p h f t) (ok : SnOk N p h f t) (hN : 0 < N) {dy : Int32} {u : Nat} {q : TN} {xs : List Int32} (hx : xs.length + (u + 1) ≤ 400) (h9 : kN q = 30) (iA : ∀ ys : List Int32, ys.length + u ≤ 400 → evs (lfG N dy P H F T) (stL N u (kdA q)) ys = ofN N dy p h f t u (kdA q) :: ys) (iB : ∀ ys : List Int32, ys.length + u ≤ 400 → evs (lfG N dy P H F T) (stL N u (kdB q)) ys = ofN N dy p h f t u (kdB q) :: ys) (a01 : ofN N dy p h f t u (kdA q) = 0 ∨ ofN N dy p h f t u (kdA q) = 1) (b01 : ofN N dy p h f t u (kdB q) = 0 ∨ ofN N dy p h f t u (kdB q) = 1) : evs (lfG N dy P H F T) (stL N (u + 1) q) xs = ofN N dy p h f t (u + 1) q :: xs := by
  have hN12 := ok.1
  have hx4 : xs.length < 400 := by omega
  have nl : ¬ kN q = 0 → nuQ N q < N := fun c => nm_lt hN c
  have ol : otN N q < N := ot_lt hN q
  rw [sl_30 h9, of_30 h9]
  have hz : (if (16 : Int32) ≤ 21 then b2i (tsX 21 (ofN N dy p h f t u (kdA q)) (ofN N dy p h f t u (kdB q))) else smX 21 (ofN N dy p h f t u (kdA q)) (ofN N dy p h f t u (kdB q))) = twN 30 (ofN N dy p h f t u (kdA q)) (ofN N dy p h f t u (kdB q)) := by
    rw [if_pos (by decide)]
    exact bi_21 a01 b01
  rw [evs_app, evs_app, iA xs (by omega), iB (_ :: xs) (by simp only [List.length_cons]; omega), evs, evs]
  exact evS_bi (lf := lfG N dy P H F T) (f := 0) (s := 0) (by decide) (by decide) hx4 hz
theorem ev_31 (e : EqS N P H F T p h f t) (ok : SnOk N p h f t) (hN : 0 < N) {dy : Int32} {u : Nat} {q : TN} {xs : List Int32} (hx : xs.length + (u + 1) ≤ 400) (h9 : kN q = 31) (iA : ∀ ys : List Int32, ys.length + u ≤ 400 → evs (lfG N dy P H F T) (stL N u (kdA q)) ys = ofN N dy p h f t u (kdA q) :: ys) (iB : ∀ ys : List Int32, ys.length + u ≤ 400 → evs (lfG N dy P H F T) (stL N u (kdB q)) ys = ofN N dy p h f t u (kdB q) :: ys) (a01 : ofN N dy p h f t u (kdA q) = 0 ∨ ofN N dy p h f t u (kdA q) = 1) (b01 : ofN N dy p h f t u (kdB q) = 0 ∨ ofN N dy p h f t u (kdB q) = 1) : evs (lfG N dy P H F T) (stL N (u + 1) q) xs = ofN N dy p h f t (u + 1) q :: xs := by
  have hN12 := ok.1
  have hx4 : xs.length < 400 := by omega
  have nl : ¬ kN q = 0 → nuQ N q < N := fun c => nm_lt hN c
  have ol : otN N q < N := ot_lt hN q
  rw [sl_31 h9, of_31 h9]
  have hz : (if (16 : Int32) ≤ 22 then b2i (tsX 22 (ofN N dy p h f t u (kdA q)) (ofN N dy p h f t u (kdB q))) else smX 22 (ofN N dy p h f t u (kdA q)) (ofN N dy p h f t u (kdB q))) = twN 31 (ofN N dy p h f t u (kdA q)) (ofN N dy p h f t u (kdB q)) := by
    rw [if_pos (by decide)]
    exact bi_22 a01 b01
  rw [evs_app, evs_app, iA xs (by omega), iB (_ :: xs) (by simp only [List.length_cons]; omega), evs, evs]
  exact evS_bi (lf := lfG N dy P H F T) (f := 0) (s := 0) (by decide) (by decide) hx4 hz
/-- a tree's steps push its value -/
theorem ev_tree (e : EqS N P H F T p h f t) (ok : SnOk N p h f t) (hN : 0 < N) {dy : Int32} : ∀ (u : Nat) (q : TN) (xs : List Int32), WfT u q → xs.length + u ≤ 400 → evs (lfG N dy P H F T) (stL N u q) xs = ofN N dy p h f t u q :: xs
  | 0, _, _, hw, _ => (wf_0 hw).elim
  | u + 1, q, xs, hw, hx => by
    have iA : hasA (kN q) = true → ∀ ys : List Int32, ys.length + u ≤ 400 → evs (lfG N dy P H F T) (stL N u (kdA q)) ys = ofN N dy p h f t u (kdA q) :: ys := fun hk ys hy => ev_tree e ok hN u (kdA q) ys (wf_A hw hk) hy
    have iB : hasA (kN q) = true → ∀ ys : List Int32, ys.length + u ≤ 400 → evs (lfG N dy P H F T) (stL N u (kdB q)) ys = ofN N dy p h f t u (kdB q) :: ys := fun hk ys hy => ev_tree e ok hN u (kdB q) ys (wf_B hw hk) hy
    rcases kN_all q with h9 | h9 | h9 | h9 | h9 | h9 | h9 | h9 | h9 | h9 | h9 | h9 | h9 | h9 | h9 | h9 | h9 | h9 | h9 | h9 | h9 | h9 | h9
    · exact ev_0 e ok hN hx h9
    · exact ev_1 e ok hN hx h9
    · exact ev_2 e ok hN hx h9
    · exact ev_3 e ok hN hx h9
    · exact ev_4 e ok hN hx h9
    · exact ev_5 e ok hN hx h9
    · exact ev_6 e ok hN hx h9 (iA (by rw [h9]; decide)) (iB (by rw [h9]; decide))
    · exact ev_7 e ok hN hx h9 (iA (by rw [h9]; decide)) (iB (by rw [h9]; decide))
    · exact ev_8 e ok hN hx h9 (iA (by rw [h9]; decide)) (iB (by rw [h9]; decide))
    · exact ev_9 e ok hN hx h9 (iA (by rw [h9]; decide)) (iB (by rw [h9]; decide))
    · exact ev_10 e ok hN hx h9 (iA (by rw [h9]; decide)) (iB (by rw [h9]; decide))
    · exact ev_11 e ok hN hx h9 (iA (by rw [h9]; decide)) (iB (by rw [h9]; decide))
    · exact ev_12 e ok hN hx h9 (iA (by rw [h9]; decide)) (iB (by rw [h9]; decide))
    · exact ev_20 e ok hN hx h9 (iA (by rw [h9]; decide)) (iB (by rw [h9]; decide))
    · exact ev_21 e ok hN hx h9 (iA (by rw [h9]; decide)) (iB (by rw [h9]; decide))
    · exact ev_22 e ok hN hx h9 (iA (by rw [h9]; decide)) (iB (by rw [h9]; decide))
    · exact ev_23 e ok hN hx h9 (iA (by rw [h9]; decide)) (iB (by rw [h9]; decide))
    · exact ev_24 e ok hN hx h9 (iA (by rw [h9]; decide)) (iB (by rw [h9]; decide))
    · exact ev_25 e ok hN hx h9
    · exact ev_26 e ok hN hx h9
    · exact ev_29 e ok hN hx h9 (iA (by rw [h9]; decide)) (iB (by rw [h9]; decide))
    · exact ev_30 e ok hN hx h9 (iA (by rw [h9]; decide)) (iB (by rw [h9]; decide)) (of_01 u _ (kd_t (q := q) (kt_of (by omega)) (by omega)).1 (wf_A hw (by rw [h9]; decide))) (of_01 u _ (kd_t (q := q) (kt_of (by omega)) (by omega)).2 (wf_B hw (by rw [h9]; decide)))
    · exact ev_31 e ok hN hx h9 (iA (by rw [h9]; decide)) (iB (by rw [h9]; decide)) (of_01 u _ (kd_t (q := q) (kt_of (by omega)) (by omega)).1 (wf_A hw (by rw [h9]; decide))) (of_01 u _ (kd_t (q := q) (kt_of (by omega)) (by omega)).2 (wf_B hw (by rw [h9]; decide)))
