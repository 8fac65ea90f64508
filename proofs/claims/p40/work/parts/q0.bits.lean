def inX (v l h : Int32) : Bool := !decide (v < l) && !decide (h < v)
/-- a wall's height at an hour -/
def tlM (H F T : Nat → Int32) (i : Nat) (hr : Int32) : Int32 := if F i = -1 then H i else if inX hr (F i) (T i) = true then 0 else H i
def spM (hr : Int32) : Int32 := if inX hr 6 18 = true then absI (hr - 12) else 0
def awM (P : Nat → Int32) (i j : Nat) (hr : Int32) : Int32 := if hr < 12 then P i - P j else P j - P i
/-- whether i shades j at an hour -/
def snM (P H F T : Nat → Int32) (i j : Nat) (hr : Int32) : Bool := if awM P i j hr ≤ 0 then false else if tlM H F T i hr * spM hr / 2 < awM P i j hr then false else decide (tlM H F T j hr < (tlM H F T i hr * spM hr - 2 * awM P i j hr) / spM hr)
def bsM (v : Int32 → Bool) : Nat → Int32
  | 0 => 0
  | j + 1 => bsM v j ||| (b2i (v (nI (6 + j))) <<< (nI (6 + j) &&& 31))
/-- the hours at which b shades a -/
def lkM (P H F T : Nat → Int32) (a b : Nat) : Int32 := bsM (fun hr => snM P H F T b a hr) 13
/-- places are numbers below 100 -/
def Pok (N : Nat) (P : Nat → Int32) : Prop := ∀ i, i < N → ∃ p, p ≤ 99 ∧ P i = nI p
/-- no first low hour: no last one -/
def FTok (N : Nat) (F T : Nat → Int32) : Prop := ∀ h, h < N → F h = -1 → T h = -1
theorem upd_self {f : Nat → Int32} {k : Nat} {x : Int32} (h : f k = x) : upd f k x = f := by
  funext i
  by_cases e : i = k
  · subst e; rw [upd_s, h]
  · rw [upd_n e]
theorem hl_ne (x : Int64) : hlF x 6 18 ≠ -1 := by
  unfold hlF
  by_cases c : x < (18 : Int32).toInt64
  · rw [if_pos c]
    by_cases d : x < (6 : Int32).toInt64
    · rw [if_pos d]; decide
    · rw [if_neg d]
      intro e
      have h1 := Int64.le_iff_toInt_le.mp (Int64.not_lt.mp d)
      have h2 := Int64.lt_iff_toInt_lt.mp c
      have e6 : ((6 : Int32).toInt64).toInt = 6 := by decide
      have e18 : ((18 : Int32).toInt64).toInt = 18 := by decide
      rw [e6] at h1
      rw [e18] at h2
      have h3 := congrArg Int32.toInt e
      rw [Int64.toInt_toInt32] at h3
      have h4 : x.toInt.bmod (2 ^ 32) = x.toInt := Int.bmod_eq_of_le (by omega) (by omega)
      rw [h4] at h3
      have h5 : (-1 : Int32).toInt = -1 := by decide
      omega
  · rw [if_neg c, if_neg (by decide)]; decide
theorem FTok.up {N h : Nat} {F T : Nat → Int32} {x y : Int32} (hf : FTok N F T) (hxy : x = -1 → y = -1) : FTok N (upd F h x) (upd T h y) := by
  intro i hi e
  by_cases q : i = h
  · subst q; rw [upd_s] at e ⊢; exact hxy e
  · rw [upd_n q] at e ⊢; exact hf i hi e
def fhB (y : Nat → Bool) (h : Nat → Int32) : Nat → Int32
  | 0 => 0
  | k + 1 => fhB y h k ||| (b2i (y (k + 1)) <<< (h (k + 1) &&& 31))
theorem fhAcc_B {wb wh : Int32 → Int32} {ew : Int32} : ∀ n, fhAcc wb wh ew n = fhB (fun k => decide (fhYes wb wh ew k)) (fhHour ew) n
  | 0 => rfl
  | n + 1 => by
    rw [fhAcc, fhB, ← fhAcc_B n]
    by_cases c : fhYes wb wh ew (n + 1)
    · rw [if_pos c, decide_eq_true c]; rfl
    · rw [if_neg c, decide_eq_false c]
      show _ = _ ||| ((0 : Int32) <<< _)
      rw [Int32.zero_shiftLeft, Int32.or_zero]
theorem sp_ab : ∀ k : Fin 7, spM (nI (12 + k.1)) = nI k.1 ∧ spM (nI (12 - k.1)) = nI k.1 ∧ (12 : Int32) - nI k.1 = nI (12 - k.1) := by decide
theorem lt12 : ∀ k : Fin 7, ¬ nI (12 + k.1) < 12 ∧ (1 ≤ k.1 → nI (12 - k.1) < 12) := by decide
theorem nd_pos : ∀ d : Fin 100, 1 ≤ d.1 → ¬ nI d.1 ≤ 0 ∧ -nI d.1 ≤ 0 ∧ ¬ 0 ≤ -nI d.1 ∧ 0 ≤ nI d.1 ∧ ¬ nI d.1 = 0 ∧ ¬ -nI d.1 = 0 := by decide
theorem tl_wl {H F T : Nat → Int32} {i k : Nat} (h : F i = -1 → T i = -1) (hk : k < 100) : tlM H F T i (nI k) = wlF H F T i (nI k) := by
  have hn : (-1 : Int32) < nI k := by
    apply Int32.lt_iff_toInt_lt.mpr
    rw [nI_toInt (by omega)]
    have : (-1 : Int32).toInt = -1 := by decide
    omega
  unfold tlM wlF
  by_cases c : F i = -1
  · rw [if_pos c, if_neg]
    rintro ⟨-, h2⟩
    rw [h c] at h2
    exact h2 hn
  · rw [if_neg c]
    by_cases d : ¬ nI k < F i ∧ ¬ T i < nI k
    · rw [if_pos d, if_pos (by simp [inX, d.1, d.2])]
    · rw [if_neg d, if_neg]
      intro e
      apply d
      simpa [inX] using e
theorem or_up : ∀ y1 y2 y3 y4 y5 y6 : Bool, ((((((((((((((0 : Int32) ||| (b2i false <<< (nI 6 &&& 31))) ||| (b2i false <<< (nI 7 &&& 31))) ||| (b2i false <<< (nI 8 &&& 31))) ||| (b2i false <<< (nI 9 &&& 31))) ||| (b2i false <<< (nI 10 &&& 31))) ||| (b2i false <<< (nI 11 &&& 31))) ||| (b2i false <<< (nI 12 &&& 31))) ||| (b2i y1 <<< (nI 13 &&& 31))) ||| (b2i y2 <<< (nI 14 &&& 31))) ||| (b2i y3 <<< (nI 15 &&& 31))) ||| (b2i y4 <<< (nI 16 &&& 31))) ||| (b2i y5 <<< (nI 17 &&& 31))) ||| (b2i y6 <<< (nI 18 &&& 31))) = (((((((0 : Int32) ||| (b2i y1 <<< (nI 13 &&& 31))) ||| (b2i y2 <<< (nI 14 &&& 31))) ||| (b2i y3 <<< (nI 15 &&& 31))) ||| (b2i y4 <<< (nI 16 &&& 31))) ||| (b2i y5 <<< (nI 17 &&& 31))) ||| (b2i y6 <<< (nI 18 &&& 31))) := by decide +kernel
theorem or_dn : ∀ y1 y2 y3 y4 y5 y6 : Bool, ((((((((((((((0 : Int32) ||| (b2i y6 <<< (nI 6 &&& 31))) ||| (b2i y5 <<< (nI 7 &&& 31))) ||| (b2i y4 <<< (nI 8 &&& 31))) ||| (b2i y3 <<< (nI 9 &&& 31))) ||| (b2i y2 <<< (nI 10 &&& 31))) ||| (b2i y1 <<< (nI 11 &&& 31))) ||| (b2i false <<< (nI 12 &&& 31))) ||| (b2i false <<< (nI 13 &&& 31))) ||| (b2i false <<< (nI 14 &&& 31))) ||| (b2i false <<< (nI 15 &&& 31))) ||| (b2i false <<< (nI 16 &&& 31))) ||| (b2i false <<< (nI 17 &&& 31))) ||| (b2i false <<< (nI 18 &&& 31))) = (((((((0 : Int32) ||| (b2i y1 <<< (nI 11 &&& 31))) ||| (b2i y2 <<< (nI 10 &&& 31))) ||| (b2i y3 <<< (nI 9 &&& 31))) ||| (b2i y4 <<< (nI 8 &&& 31))) ||| (b2i y5 <<< (nI 7 &&& 31))) ||| (b2i y6 <<< (nI 6 &&& 31))) := by decide +kernel
theorem sn_no {P H F T : Nat → Int32} {i j : Nat} {hr : Int32} (h : awM P i j hr ≤ 0) : snM P H F T i j hr = false := by rw [snM, if_pos h]
theorem sn_12 {P H F T : Nat → Int32} {i j : Nat} : snM P H F T i j (nI 12) = false := by
  unfold snM
  by_cases c : awM P i j (nI 12) ≤ 0
  · rw [if_pos c]
  · rw [if_neg c, if_pos]
    rw [show spM (nI 12) = 0 from by decide, Int32.mul_zero, show (0 : Int32) / 2 = 0 from by decide]
    exact Int32.not_le.mp c
theorem sn_yes {P H F T : Nat → Int32} {i j k d : Nat} {hr ew : Int32} (hF : F i = -1 → T i = -1) (hFj : F j = -1 → T j = -1) {n : Nat} (hn : n < 100) (hhr : hr = nI n) (hd : 1 ≤ d) (hd2 : d < 100) (ha : awM P i j hr = nI d) (hs : spM hr = nI k) (hf : fhHour ew k = hr) (hab : absI ew = nI d) : snM P H F T i j hr = decide (fhYes (wlF H F T i) (wlF H F T j) ew k) := by
  have h1 := (nd_pos ⟨d, hd2⟩ hd).1
  rw [snM, ha, hs, if_neg h1, hhr, tl_wl hF hn, tl_wl hFj hn, ← hhr]
  unfold fhYes
  rw [hf, hab]
  by_cases c : wlF H F T i hr * nI k / 2 < nI d
  · rw [if_pos c, decide_eq_false (fun q => q.1 c)]
  · rw [if_neg c]
    by_cases e : wlF H F T j hr < (wlF H F T i hr * nI k - 2 * nI d) / nI k
    · rw [decide_eq_true e, decide_eq_true ⟨c, Int32.not_le.mpr e⟩]
    · rw [decide_eq_false e, decide_eq_false (fun q => e (Int32.not_le.mp q.2))]
set_option maxRecDepth 100000 in
/-- the model's hours are the class's -/
theorem lk_sh {P H F T : Nat → Int32} {a b p q : Nat} (hp : P a = nI p) (hq : P b = nI q) (hp9 : p ≤ 99) (hq9 : q ≤ 99) (ha : F a = -1 → T a = -1) (hb : F b = -1 → T b = -1) : lkM P H F T a b = shH P H F T a b := by
  rw [lkM, shH, shG, hp, hq]
  rcases Nat.lt_trichotomy p q with h | h | h
  · -- eastward less than none
    obtain ⟨d, rfl⟩ : ∃ d, q = p + d := ⟨q - p, by omega⟩
    have hd : 1 ≤ d := by omega
    have hd2 : d < 100 := by omega
    obtain ⟨n1, n2, n3, n4, n5, n6⟩ := nd_pos ⟨d, hd2⟩ hd
    have e1 : nI (p + d) - nI p = nI d := by rw [pk_sub (by omega), show p + d - p = d by omega]
    have e2 : nI p - nI (p + d) = -nI d := by rw [← Int32.neg_sub, e1]
    have hab : absI (-nI d) = nI d := by rw [absI, if_neg n3, Int32.zero_sub, Int32.neg_neg]
    rw [e2, if_neg n6, fhAcc_B]
    obtain ⟨y, hy⟩ : ∃ y : Nat → Bool, y = fun k => decide (fhYes (wlF H F T b) (wlF H F T a) (-nI d) k) := ⟨_, rfl⟩
    rw [← hy]
    have hh : ∀ n k : Nat, k ≤ 6 → n + k = 12 → fhHour (-nI d) k = nI n := fun n k hk e => by
      rw [fhHour, if_neg n3, show n = 12 - k by omega]; exact (sp_ab ⟨k, by omega⟩).2.2
    have lo : ∀ n k : Nat, 1 ≤ k → k ≤ 6 → n + k = 12 → snM P H F T b a (nI n) = y k := fun n k h1 hk e => by
      rw [hy]; exact sn_yes hb ha (n := n) (by omega) rfl hd hd2 (by rw [awM, show n = 12 - k by omega, if_pos ((lt12 ⟨k, by omega⟩).2 h1), hp, hq, e1]) (by rw [show n = 12 - k by omega]; exact (sp_ab ⟨k, by omega⟩).2.1) (hh n k hk e) hab
    have hi : ∀ n k : Nat, k ≤ 6 → n = 12 + k → snM P H F T b a (nI n) = false := fun n k hk e => sn_no (by rw [e, awM, if_neg (lt12 ⟨k, by omega⟩).1, hp, hq, e2]; exact n2)
    simp only [bsM, fhB, Nat.reduceAdd]
    rw [lo 6 6 (by decide) (by decide) (by decide), lo 7 5 (by decide) (by decide) (by decide), lo 8 4 (by decide) (by decide) (by decide), lo 9 3 (by decide) (by decide) (by decide), lo 10 2 (by decide) (by decide) (by decide), lo 11 1 (by decide) (by decide) (by decide), hi 12 0 (by decide) (by decide), hi 13 1 (by decide) (by decide), hi 14 2 (by decide) (by decide), hi 15 3 (by decide) (by decide), hi 16 4 (by decide) (by decide), hi 17 5 (by decide) (by decide), hi 18 6 (by decide) (by decide), hh 11 1 (by decide) (by decide), hh 10 2 (by decide) (by decide), hh 9 3 (by decide) (by decide), hh 8 4 (by decide) (by decide), hh 7 5 (by decide) (by decide), hh 6 6 (by decide) (by decide)]
    exact or_dn _ _ _ _ _ _
  · subst h
    have e0 : nI p - nI p = 0 := by rw [Int32.sub_self]
    rw [if_pos e0]
    have hz : ∀ hr, snM P H F T b a hr = false := fun hr => sn_no (by rw [awM, hp, hq, e0]; split <;> decide)
    simp only [bsM, hz]
    decide
  · obtain ⟨d, rfl⟩ : ∃ d, p = q + d := ⟨p - q, by omega⟩
    have hd : 1 ≤ d := by omega
    have hd2 : d < 100 := by omega
    obtain ⟨n1, n2, n3, n4, n5, n6⟩ := nd_pos ⟨d, hd2⟩ hd
    have e1 : nI (q + d) - nI q = nI d := by rw [pk_sub (by omega), show q + d - q = d by omega]
    have e2 : nI q - nI (q + d) = -nI d := by rw [← Int32.neg_sub, e1]
    have hab : absI (nI d) = nI d := by rw [absI, if_pos n4]
    rw [e1, if_neg n5, fhAcc_B]
    obtain ⟨y, hy⟩ : ∃ y : Nat → Bool, y = fun k => decide (fhYes (wlF H F T b) (wlF H F T a) (nI d) k) := ⟨_, rfl⟩
    rw [← hy]
    have hh : ∀ n k : Nat, k ≤ 6 → n = 12 + k → fhHour (nI d) k = nI n := fun n k _ e => by rw [fhHour, if_pos n4, e]
    have hi : ∀ n k : Nat, 1 ≤ k → k ≤ 6 → n = 12 + k → snM P H F T b a (nI n) = y k := fun n k h1 hk e => by
      rw [hy]; exact sn_yes hb ha (n := n) (by omega) rfl hd hd2 (by rw [awM, e, if_neg (lt12 ⟨k, by omega⟩).1, hp, hq, e1]) (by rw [e]; exact (sp_ab ⟨k, by omega⟩).1) (hh n k hk e) hab
    have lo : ∀ n k : Nat, 1 ≤ k → k ≤ 6 → n + k = 12 → snM P H F T b a (nI n) = false := fun n k h1 hk e => sn_no (by rw [show n = 12 - k by omega, awM, if_pos ((lt12 ⟨k, by omega⟩).2 h1), hp, hq, e2]; exact n2)
    simp only [bsM, fhB, Nat.reduceAdd]
    rw [lo 6 6 (by decide) (by decide) (by decide), lo 7 5 (by decide) (by decide) (by decide), lo 8 4 (by decide) (by decide) (by decide), lo 9 3 (by decide) (by decide) (by decide), lo 10 2 (by decide) (by decide) (by decide), lo 11 1 (by decide) (by decide) (by decide), sn_12, hi 13 1 (by decide) (by decide) (by decide), hi 14 2 (by decide) (by decide) (by decide), hi 15 3 (by decide) (by decide) (by decide), hi 16 4 (by decide) (by decide) (by decide), hi 17 5 (by decide) (by decide) (by decide), hi 18 6 (by decide) (by decide) (by decide), hh 13 1 (by decide) (by decide), hh 14 2 (by decide) (by decide), hh 15 3 (by decide) (by decide), hh 16 4 (by decide) (by decide), hh 17 5 (by decide) (by decide), hh 18 6 (by decide) (by decide)]
    exact or_up _ _ _ _ _ _
/-- the bits 6 .. 18 -/
def bsB (y : Nat → Bool) : Nat → Int32
  | 0 => 0
  | j + 1 => bsB y j ||| (b2i (y j) <<< (nI (6 + j) &&& 31))
theorem bs_B {v : Int32 → Bool} : ∀ n, bsM v n = bsB (fun j => v (nI (6 + j))) n
  | 0 => rfl
  | n + 1 => by rw [bsM, bsB, bs_B n]
def bsG (a b c d e f g h i j k l m : Bool) : Int32 := bsB (fun n => match n with | 0 => a | 1 => b | 2 => c | 3 => d | 4 => e | 5 => f | 6 => g | 7 => h | 8 => i | 9 => j | 10 => k | 11 => l | _ => m) 13
theorem bsB_13 (y : Nat → Bool) : bsB y 13 = bsG (y 0) (y 1) (y 2) (y 3) (y 4) (y 5) (y 6) (y 7) (y 8) (y 9) (y 10) (y 11) (y 12) := rfl
theorem or_b2i (p q : Bool) (k : Int32) : (b2i p <<< k) ||| (b2i q <<< k) = b2i (p || q) <<< k := by
  cases p <;> cases q <;> simp [b2i]
theorem or_4 (a b c d : Int32) : (a ||| b) ||| (c ||| d) = (a ||| c) ||| (b ||| d) := by
  rw [Int32.or_assoc, ← Int32.or_assoc b c d, Int32.or_comm b c, Int32.or_assoc c b d, ← Int32.or_assoc]
theorem bsB_or (y z : Nat → Bool) : ∀ n, bsB y n ||| bsB z n = bsB (fun j => y j || z j) n
  | 0 => by rw [bsB, bsB, bsB, Int32.or_self]
  | n + 1 => by rw [bsB, bsB, bsB, ← bsB_or y z n, or_4, or_b2i]
/-- the model's nearest one that shades -/
def sbM (P : Nat → Int32) (lk : Nat → Int32) (i : Nat) (x : Int32) : Nat → Option Nat
  | 0 => none
  | k + 1 => if (lk k >>> (x &&& 31)) &&& 1 = 1 ∧ (∀ t, sbM P lk i x k = some t → absI (P k - P i) < absI (P t - P i)) then some k else sbM P lk i x k
def oN : Option Nat → Int32
  | none => -1
  | some k => nI k
theorem sbM_lt {P lk : Nat → Int32} {i : Nat} {x : Int32} : ∀ {k t : Nat}, sbM P lk i x k = some t → t < k
  | 0, _, h => by cases h
  | k + 1, t, h => by
    rw [sbM] at h
    split at h
    · cases h; exact Nat.lt_succ_self _
    · exact Nat.lt_succ_of_lt (sbM_lt h)
theorem lk_eq {N : Nat} {P H F T : Nat → Int32} (hP : Pok N P) (hF : FTok N F T) {a b : Nat} (ha : a < N) (hb : b < N) : lkM P H F T a b = shH P H F T a b := by
  obtain ⟨p, p1, p2⟩ := hP a ha
  obtain ⟨q, q1, q2⟩ := hP b hb
  exact lk_sh p2 q2 p1 q1 (hF a ha) (hF b hb)
theorem stAt_cong {N : Nat} (hN : N ≤ 12) {q d : Int32} {f g : Nat → Int32} (h : ∀ i, i < N → f i = g i) : stAt (nI N) q f d = stAt (nI N) q g d := by
  by_cases c : hasB (nI N) q = true
  · rw [stAt, stAt, if_pos c, if_pos c, h _ (hasB_lt hN c)]
  · rw [stAt, stAt, if_neg c, if_neg c]
theorem shF_X {N : Nat} (hN : N ≤ 12) {q g : Int32} {S P H F T : Nat → Int32} (hS : ∀ i j, i < N → j < N → S (i * 12 + j) = shH P H F T i j) : shF (nI N) S q g = shX N P H F T q g := by
  by_cases c : hasB (nI N) q = true ∧ hasB (nI N) g = true
  · obtain ⟨i, hi, rfl⟩ := hasB_of hN c.1
    obtain ⟨j, hj, rfl⟩ := hasB_of hN c.2
    rw [shF, shX, if_pos c, if_pos c, show (12 : Int32) = nI 12 from rfl, pk_mul, nI_add, nI_clamp (by omega), nI_clamp (by omega), nI_clamp (by omega)]
    exact hS i j hi hj
  · rw [shF, shX, if_neg c, if_neg c]
theorem cntN_cong {f g : Nat → Bool} : ∀ {N : Nat}, (∀ i, i < N → f i = g i) → cntN f N = cntN g N
  | 0, _ => rfl
  | N + 1, h => by rw [cntN, cntN, cntN_cong (fun i hi => h i (by omega)), h N (by omega)]
theorem amx_lt' {f : Nat → Int32} : ∀ {k : Nat}, 1 ≤ k → amx f k < k
  | 0, h => absurd h (by decide)
  | 1, _ => by
    rw [amx, amx]; split <;> decide
  | k + 2, _ => by
    have := amx_lt' (f := f) (k := k + 1) (by omega)
    rw [amx]; split <;> omega
theorem amx_cong {f g : Nat → Int32} : ∀ {N : Nat}, (∀ i, i < N → f i = g i) → amx f N = amx g N
  | 0, _ => rfl
  | N + 1, h => by
    have e := amx_cong (N := N) (fun i hi => h i (by omega))
    rw [amx, amx, e, h N (by omega)]
    rcases Nat.eq_zero_or_pos N with z | z
    · subst z; rw [show amx g 0 = 0 from rfl, h 0 (by omega)]
    · rw [h _ (by have := amx_lt' (f := g) z; omega)]
theorem ao_r {a b c : Int32} : (a ||| b) &&& c = (a &&& c) ||| (b &&& c) := Int32.toBitVec_inj.mp (by rw [Int32.toBitVec_and, Int32.toBitVec_or, Int32.toBitVec_or, Int32.toBitVec_and, Int32.toBitVec_and]; exact BitVec.and_or_distrib_right)
theorem and1 (y : Int32) : y &&& 1 = 0 ∨ y &&& 1 = 1 := by
  have e : (y &&& 1).toBitVec = BitVec.setWidth 32 (BitVec.ofBool (y.toBitVec.getLsbD 0)) := by
    rw [Int32.toBitVec_and]
    exact BitVec.and_one_eq_setWidth_ofBool_getLsbD
  cases c : y.toBitVec.getLsbD 0
  · left; apply Int32.toBitVec_inj.mp; rw [e, c]; rfl
  · right; apply Int32.toBitVec_inj.mp; rw [e, c]; rfl
theorem hh_1 {x h : Int32} : hhX x h = true ↔ (x >>> (h &&& 31)) &&& 1 = 1 := by
  rcases and1 (x >>> (h &&& 31)) with c | c
  · rw [hhX, c]; decide
  · rw [hhX, c]; decide
theorem hh_d (x h : Int32) : hhX x h = decide ((x >>> (h &&& 31)) &&& 1 = 1) := by
  by_cases c : (x >>> (h &&& 31)) &&& 1 = 1
  · rw [decide_eq_true c]; exact hh_1.mpr c
  · rw [decide_eq_false c]
    cases e : hhX x h
    · rfl
    · exact absurd (hh_1.mp e) c
theorem ab_d : ∀ p, p < 100 → ∀ q, q < 100 → absI (nI p - nI q) < 100 := by
  intro p hp q hq
  have key : ∀ d, d < 100 → absI (nI d) = nI d ∧ absI (-nI d) = nI d := by decide
  rcases Nat.le_total q p with h | h
  · rw [pk_sub h, (key (p - q) (by omega)).1]; exact nI_lt (a := p - q) (b := 100) (by omega) (by decide)
  · rw [← Int32.neg_sub, pk_sub h, (key (q - p) (by omega)).2]; exact nI_lt (a := q - p) (b := 100) (by omega) (by decide)
/-- how far the nearest one is -/
def sbA (P : Nat → Int32) (i : Nat) : Option Nat → Int32
  | none => 100
  | some t => absI (P t - P i)
theorem sb_all {N : Nat} {P H F T S : Nat → Int32} {i : Nat} {g : Int32} (hN : N ≤ 12) (hP : Pok N P) (hi : i < N) (hS : ∀ i j, i < N → j < N → S (i * 12 + j) = shH P H F T i j) : ∀ k, k ≤ N → sbX N P S (nI i) g k = (oN (sbM P (fun k => shH P H F T i k) i g k), sbA P i (sbM P (fun k => shH P H F T i k) i g k))
  | 0, _ => rfl
  | k + 1, hk => by
    have ih := sb_all (g := g) hN hP hi hS k (by omega)
    have e : shF (nI N) S (nI i) (nI k) = shH P H F T i k := by
      rw [shF_X hN hS, shX, if_pos ⟨hasB_nI hi hN, hasB_nI (by omega) hN⟩, nI_clamp (by omega), nI_clamp (by omega)]
    have e1 : stAt (nI N) (nI k) P (-1) = P k := stAt_nI (by omega) hN P (-1)
    have e2 : stAt (nI N) (nI i) P (-1) = P i := stAt_nI hi hN P (-1)
    have ea : (if 0 ≤ P k - P i then P k - P i else 0 - (P k - P i)) = absI (P k - P i) := rfl
    rw [sbX, sbM, e1, e2, e, ih, ea]
    dsimp only
    have e100 : absI (P k - P i) < 100 := by
      obtain ⟨p, p1, p2⟩ := hP k (by omega)
      obtain ⟨q, q1, q2⟩ := hP i hi
      rw [p2, q2]; exact ab_d p (by omega) q (by omega)
    have iff1 : (absI (P k - P i) < sbA P i (sbM P (fun k => shH P H F T i k) i g k) ∧ hhX (shH P H F T i k) g = true) ↔ ((shH P H F T i k >>> (g &&& 31)) &&& 1 = 1 ∧ ∀ t, sbM P (fun k => shH P H F T i k) i g k = some t → absI (P k - P i) < absI (P t - P i)) := by
      rw [hh_1]
      cases c : sbM P (fun k => shH P H F T i k) i g k with
      | none => exact ⟨fun z => ⟨z.2, fun t e => by cases e⟩, fun z => ⟨e100, z.1⟩⟩
      | some t => exact ⟨fun z => ⟨z.2, fun t' e => by cases e; exact z.1⟩, fun z => ⟨z.2 t rfl, z.1⟩⟩
    by_cases c : (shH P H F T i k >>> (g &&& 31)) &&& 1 = 1 ∧ ∀ t, sbM P (fun k => shH P H F T i k) i g k = some t → absI (P k - P i) < absI (P t - P i)
    · rw [if_pos (iff1.mpr c), if_pos c]; rfl
    · rw [if_neg (fun z => c (iff1.mp z)), if_neg c]
theorem sb_eq {N : Nat} {P H F T S : Nat → Int32} {i : Nat} {g : Int32} (hN : N ≤ 12) (hP : Pok N P) (hi : i < N) (hS : ∀ i j, i < N → j < N → S (i * 12 + j) = shH P H F T i j) : (sbX N P S (nI i) g N).1 = oN (sbM P (fun k => shH P H F T i k) i g N) := by
  rw [sb_all hN hP hi hS N (Nat.le_refl _)]
theorem cu_ne {fr to_ : Int32} (h : ¬ (fr < 6 ∨ 18 < to_ ∨ to_ < fr)) (e : fr = -1) : to_ = -1 := by
  subst e; exact absurd (Or.inl (by decide)) h
theorem in_nI {x : Int32} {m : Nat} (hm : m < 2147483648) (h : ¬ (x < 0 ∨ nI m < x)) : ∃ t, t ≤ m ∧ x = nI t := by
  have h1 : ¬ x < 0 := fun e => h (Or.inl e)
  have h2 : ¬ nI m < x := fun e => h (Or.inr e)
  have h3 := Int32.le_iff_toInt_le.mp (Int32.not_lt.mp h1)
  have h4 := Int32.le_iff_toInt_le.mp (Int32.not_lt.mp h2)
  have e0 : (0 : Int32).toInt = 0 := rfl
  rw [nI_toInt (by omega)] at h4
  refine ⟨x.toInt.toNat, by omega, Int32.toInt_inj.mp ?_⟩
  rw [nI_toInt (by omega)]; omega
theorem Pok.up {N : Nat} {P : Nat → Int32} {k : Nat} {x : Int32} (hP : Pok N P) (h : ¬ (x < 0 ∨ 99 < x)) : Pok N (upd P k x) := by
  intro i hi
  by_cases e : i = k
  · subst e; rw [upd_s]; exact in_nI (m := 99) (by decide) h
  · rw [upd_n e]; exact hP i hi
theorem carF_FT {N : Nat} {lf : Int32 → Int32 → Int32 → Int32} {o g j H F T : Nat → Int32} {od : Int32} {h c0 c1 c2 c3 : Nat} (hF : FTok N F T) : FTok N (carF lf o g j H F T od h c0 c1 c2 c3).2.2.1 (carF lf o g j H F T od h c0 c1 c2 c3).2.2.2 := by
  unfold carF
  split
  · exact hF
  · split
    · exact hF.up (fun _ => rfl)
    · split
      · exact hF
      · split
        · exact hF
        · exact hF.up (fun e => absurd e (hl_ne _))
theorem dayL_FT {N : Nat} {dg : Int32} {P o g j l0 : Nat → Int32} {hh c0 c1 c2 c3 : Nat → Nat} : ∀ (f i : Nat) {q : HFT × Int32}, FTok N q.1.2.1 q.1.2.2 → FTok N (dayL N dg P o g j l0 hh c0 c1 c2 c3 i f q).1.2.1 (dayL N dg P o g j l0 hh c0 c1 c2 c3 i f q).1.2.2
  | 0, _, _, h => h
  | f + 1, i, _, h => by
    rw [dayL]
    exact dayL_FT f (i + 1) (by rw [carS]; exact carF_FT h)
theorem dyN_FT0 {N : Nat} {P o g j l0 : Nat → Int32} {hh c0 c1 c2 c3 : Nat → Nat} {u : Nat} {q : DY} (h : FTok N q.1.2.1 q.1.2.2) : ∀ n, FTok N (dyN N P o g j l0 hh c0 c1 c2 c3 u q n).1.2.1 (dyN N P o g j l0 hh c0 c1 c2 c3 u q n).1.2.2
  | 0 => h
  | n + 1 => by
    rw [dyN, dyS]
    exact dayL_FT u 0 (dyN_FT0 h n)
theorem dyN_FT {N : Nat} {P o g j l0 H F T : Nat → Int32} {hh c0 c1 c2 c3 : Nat → Nat} {u : Nat} {co dg : Int32} (h : FTok N F T) (n : Nat) : FTok N (dyN N P o g j l0 hh c0 c1 c2 c3 u ((H, F, T), co, dg) n).1.2.1 (dyN N P o g j l0 hh c0 c1 c2 c3 u ((H, F, T), co, dg) n).1.2.2 := dyN_FT0 (q := ((H, F, T), co, dg)) h n
theorem dkB_c {N : Nat} {D E : Nat → Int32} {h : Int32} (hN : N ≤ 12) (hD : ∀ i, i < N → D i = E i) : cntN (dkB N D h) N = cntN (dkB N E h) N := cntN_cong (fun i _ => congrArg (fun z => hhX z h) (stAt_cong hN hD))
theorem ltB_c {N : Nat} {D E : Nat → Int32} (hN : N ≤ 12) (hD : ∀ i, i < N → D i = E i) : cntN (ltB N D) N = cntN (ltB N E) N := cntN_cong (fun i _ => congrArg (fun z => decide (bitC z = 0)) (stAt_cong hN hD))
theorem lsI_c {N : Nat} {D E : Nat → Int32} (hN : N ≤ 12) (hD : ∀ i, i < N → D i = E i) : amx (lsI N D) N = amx (lsI N E) N := amx_cong (fun i _ => congrArg bitC (stAt_cong hN hD))
theorem csI_c {N : Nat} {D E : Nat → Int32} (hN : N ≤ 12) (hD : ∀ i, i < N → D i = E i) : amx (csI N D) N = amx (csI N E) N := amx_cong (fun i _ => stAt_cong hN hD)
