/-! The class's street and the law's own: the same numbers. -/
def b2n (b : Bool) : Nat := if b = true then 1 else 0
theorem bsG_cnt : ∀ a b c d e f g h i j k l m : Bool, bitC (bsG a b c d e f g h i j k l m) = nI (b2n a + b2n b + b2n c + b2n d + b2n e + b2n f + b2n g + b2n h + b2n i + b2n j + b2n k + b2n l + b2n m) := by decide +kernel
theorem cnN_s (y : Nat → Bool) (k : Nat) : cnN y (k + 1) = cnN y k + b2n (y k) := by
  rw [cnN, b2n]
  split <;> rfl
theorem bitC_bs (y : Nat → Bool) : bitC (bsB y 13) = nI (cnN y 13) := by
  rw [bsB_13, bsG_cnt]
  congr 1
  simp only [cnN_s, show cnN y 0 = 0 from rfl, Nat.zero_add]
theorem hh_or (a b g : Int32) : hhX (a ||| b) g = (hhX a g || hhX b g) := by
  have e : (a ||| b) >>> (g &&& 31) &&& 1 = ((a >>> (g &&& 31)) &&& 1) ||| ((b >>> (g &&& 31)) &&& 1) := by rw [Int32.shiftRight_or, ao_r]
  rw [hhX, hhX, hhX, e]
  rcases and1 (a >>> (g &&& 31)) with c | c <;> rcases and1 (b >>> (g &&& 31)) with d | d <;> rw [c, d] <;> decide
theorem hh_one : ∀ (y : Bool) (j : Fin 13) (k : Fin 24), hhX (b2i y <<< (nI (6 + j.1) &&& 31)) (nI k.1) = (y && decide (k.1 = 6 + j.1)) := by decide +kernel
theorem hh_zero : ∀ k : Fin 24, hhX 0 (nI k.1) = false := by decide +kernel
theorem hh_bs (y : Nat → Bool) {k : Nat} (hk : k < 24) : ∀ n, n ≤ 13 → hhX (bsB y n) (nI k) = (decide (6 ≤ k ∧ k < 6 + n) && y (k - 6))
  | 0, _ => by
    rw [bsB, hh_zero ⟨k, hk⟩, decide_eq_false (by omega)]
    rfl
  | n + 1, hn => by
    rw [bsB, hh_or, hh_bs y hk n (by omega), hh_one (y n) ⟨n, by omega⟩ ⟨k, hk⟩]
    by_cases c : k = 6 + n
    · have e : k - 6 = n := by omega
      rw [e, decide_eq_true c, decide_eq_false (by omega), decide_eq_true (by omega)]
      simp
    · rw [decide_eq_false c]
      by_cases d : 6 ≤ k ∧ k < 6 + n
      · rw [decide_eq_true d, decide_eq_true (by omega)]
        simp
      · rw [decide_eq_false d, decide_eq_false (by omega)]
        simp
theorem bsB_cong {y z : Nat → Bool} : ∀ {n : Nat}, (∀ j, j < n → y j = z j) → bsB y n = bsB z n
  | 0, _ => rfl
  | n + 1, h => by rw [bsB, bsB, bsB_cong (fun j hj => h j (by omega)), h n (by omega)]
def anyN (y : Nat → Bool) : Nat → Bool
  | 0 => false
  | k + 1 => anyN y k || y k
theorem orN_bs {f : Nat → Int32} {Y : Nat → Nat → Bool} : ∀ {n : Nat}, (∀ i, i < n → f i = bsB (Y i) 13) → orN f n = bsB (fun j => anyN (fun i => Y i j) n) 13
  | 0, _ => by
    rw [orN]
    show (0 : Int32) = bsB (fun _ => false) 13
    decide
  | n + 1, h => by
    rw [orN, orN_bs (n := n) (fun i hi => h i (by omega)), h n (by omega), bsB_or]
    rfl
theorem cnN_cong {y z : Nat → Bool} : ∀ {n : Nat}, (∀ j, j < n → y j = z j) → cnN y n = cnN z n
  | 0, _ => rfl
  | n + 1, h => by rw [cnN, cnN, cnN_cong (fun j hj => h j (by omega)), h n (by omega)]
theorem cnN_no {y : Nat → Bool} : ∀ {n : Nat}, (∀ j, j < n → y j = false) → cnN y n = 0
  | 0, _ => rfl
  | n + 1, h => by rw [cnN, h n (by omega), if_neg (by simp), cnN_no (fun j hj => h j (by omega))]
theorem cnN_add (y : Nat → Bool) (m : Nat) : ∀ n, cnN y (m + n) = cnN y m + cnN (fun j => y (m + j)) n
  | 0 => rfl
  | n + 1 => by
    rw [← Nat.add_assoc, cnN_s, cnN_add y m n, cnN_s]
    omega
/-- the hours with light alone count -/
theorem cnN_win {y : Nat → Bool} (h : ∀ k, k < 24 → (k < 6 ∨ 18 < k) → y k = false) : cnN y 24 = cnN (fun j => y (6 + j)) 13 := by
  rw [show (24 : Nat) = 6 + (13 + 5) from rfl, cnN_add, cnN_add, cnN_no (n := 6) (fun j hj => h j (by omega) (by omega)), cnN_no (n := 5) (fun j hj => h (6 + (13 + j)) (by omega) (by omega))]
  omega
/-- the class's rows and the law's -/
def EqS (N : Nat) (P H F T : Nat → Int32) (p h f t : Nat → Nat) : Prop := ∀ i, i < N → P i = nI (p i) ∧ H i = nI (h i) ∧ F i = cuI (f i) ∧ T i = cuI (t i)
section
variable {N : Nat} {P H F T : Nat → Int32} {p h f t : Nat → Nat}
theorem cu_m1 {x : Nat} (hx : x < 100) : cuI x = -1 ↔ x = 0 := by
  rw [show (-1 : Int32) = cuI 0 from rfl, cu_inj hx (by decide)]
theorem EqS.pok (e : EqS N P H F T p h f t) (ok : SnOk N p h f t) : Pok N P := fun i hi => ⟨p i, by have := (ok.2 i hi).1; omega, (e i hi).1⟩
theorem EqS.ft (e : EqS N P H F T p h f t) (ok : SnOk N p h f t) : FTok N F T := fun i hi q => by
  have hx := (ok.2 i hi).2.2
  rw [(e i hi).2.2.1, cu_m1 (by omega)] at q
  rw [(e i hi).2.2.2, cu_m1 (by omega)]
  omega
theorem tw_b (e : EqS N P H F T p h f t) (ok : SnOk N p h f t) {i k : Nat} (hi : i < N) (hk : k < 24) : tlM H F T i (nI k) = nI (tlN h f t i k) := by
  obtain ⟨-, e2, e3, e4⟩ := e i hi
  have hx := (ok.2 i hi).2.2
  rw [tlM, e2, e3, e4]
  by_cases c : f i = 0
  · rw [if_pos ((cu_m1 (by omega)).mpr c), tlN, if_neg (fun q => q.1 c)]
  · rw [if_neg (fun q => c ((cu_m1 (by omega)).mp q)), cu_nI c, cu_nI (by omega), inX, decide_eq_decide.mpr (nI_ltI (a := k) (b := f i) (by omega) (by omega)), decide_eq_decide.mpr (nI_ltI (a := t i) (b := k) (by omega) (by omega)), tlN]
    by_cases d : f i ≤ k ∧ k ≤ t i
    · rw [decide_eq_false (by omega), decide_eq_false (by omega), if_pos (show (!false && !false) = true from rfl), if_pos ⟨c, d⟩]
      rfl
    · rw [if_neg (by simp; omega), if_neg (fun q => d q.2)]
theorem sp_b : ∀ k : Fin 13, spM (nI (6 + k.1)) = nI (spN (6 + k.1)) := by decide +kernel
theorem st_b : ∀ k : Fin 24, stepsF (nI k.1) = nI (if k.1 < 6 ∨ 18 < k.1 then 0 else spN k.1) := by decide +kernel
theorem shB_out {b a k : Nat} (hk : k < 6 ∨ 18 < k) : shB p h f t b a k = false := by
  have hr : rcN h f t b k = 0 := if_pos hk
  unfold shB shD
  rw [hr]
  split
  · by_cases c : p a < p b
    · rw [decide_eq_false (p := p b - p a ≤ 0) (by omega)]; simp
    · rw [decide_eq_false c]; rfl
  · by_cases c : p b < p a
    · rw [decide_eq_false (p := p a - p b ≤ 0) (by omega)]; simp
    · rw [decide_eq_false c]; rfl
theorem sd_b {x s d l : Nat} (hx : x ≤ 360) (hs : s ≤ 12) (hl : l ≤ 30) (hd : 1 ≤ d) (hd2 : d < 100) (hxs : s = 0 → x = 0) : (if nI d ≤ 0 then false else if nI x / 2 < nI d then false else decide (nI l < (nI x - 2 * nI d) / nI s)) = (decide (d ≤ x / 2) && decide (l < (x - 2 * d) / s)) := by
  rw [if_neg (by rw [show (0 : Int32) = nI 0 from rfl, nI_leI (by omega) (by decide)]; omega), show nI x / 2 = nI (x / 2) from pk_div (a := x) (d := 2) (by omega) (by decide) (by decide)]
  by_cases c : x / 2 < d
  · rw [if_pos (nI_lt c (by omega)), decide_eq_false (show ¬ d ≤ x / 2 by omega)]
    rfl
  · have hs0 : 0 < s := Nat.pos_of_ne_zero (fun e => by have := hxs e; omega)
    have hq : (x - 2 * d) / s ≤ 360 := Nat.le_trans (Nat.div_le_self _ _) (by omega)
    rw [if_neg (nI_nlt (a := x / 2) (b := d) (by omega) (by omega)), decide_eq_true (show d ≤ x / 2 by omega), show (2 : Int32) * nI d = nI (2 * d) from pk_mul 2 d, pk_sub (by omega), pk_div (by omega) hs0 (by omega), decide_eq_decide.mpr (nI_ltI (a := l) (b := (x - 2 * d) / s) (by omega) (by omega))]
    rfl
theorem sn_b (e : EqS N P H F T p h f t) (ok : SnOk N p h f t) {a b k : Nat} (ha : a < N) (hb : b < N) (hk : 6 ≤ k) (hk2 : k ≤ 18) : snM P H F T b a (nI k) = shB p h f t b a k := by
  have hts := ts_le ok hb (k := k) (by omega)
  have htb := tlN_le ok hb k
  have hta := tlN_le ok ha k
  have hsp := spN_le (k := k) (by omega)
  have pa := (ok.2 a ha).1
  have pb := (ok.2 b hb).1
  have hsp2 : spM (nI k) = nI (spN k) := by
    have := sp_b ⟨k - 6, by omega⟩
    rwa [show 6 + (k - 6) = k by omega] at this
  have hz : spN k = 0 → tlN h f t b k * spN k = 0 := fun q => by rw [q, Nat.mul_zero]
  have hrc : rcN h f t b k = tlN h f t b k * spN k / 2 := if_neg (by omega)
  rw [snM, tw_b e ok hb (by omega), tw_b e ok ha (by omega), hsp2, pk_mul, awM, (e a ha).1, (e b hb).1]
  unfold shB shD
  rw [hrc]
  by_cases c : k < 12
  · rw [if_pos (show nI k < 12 from nI_lt (a := k) (b := 12) c (by decide)), if_pos c]
    by_cases d : p a < p b
    · rw [pk_sub (by omega), decide_eq_true d, Bool.true_and]
      exact sd_b hts hsp hta (by omega) (by omega) hz
    · rw [if_pos (sub_le0 (by omega) (by omega)), decide_eq_false d]
      rfl
  · rw [if_neg (show ¬ nI k < 12 from nI_nlt (a := k) (b := 12) (by omega) (by omega)), if_neg c]
    by_cases d : p b < p a
    · rw [pk_sub (by omega), decide_eq_true d, Bool.true_and]
      exact sd_b hts hsp hta (by omega) (by omega) hz
    · rw [if_pos (sub_le0 (by omega) (by omega)), decide_eq_false d]
      rfl
/-- the hours at which b shades a, as bits -/
theorem sh_b (e : EqS N P H F T p h f t) (ok : SnOk N p h f t) {a b : Nat} (ha : a < N) (hb : b < N) : shH P H F T a b = bsB (fun j => shB p h f t b a (6 + j)) 13 := by
  rw [← lk_eq (e.pok ok) (e.ft ok) ha hb, lkM, bs_B]
  exact bsB_cong (fun j hj => sn_b e ok ha hb (by omega) (by omega))
theorem lt_b (e : EqS N P H F T p h f t) (ok : SnOk N p h f t) {a b : Nat} (ha : a < N) (hb : b < N) : bitC (shH P H F T a b) = nI (ltN p h f t a b) := by
  rw [sh_b e ok ha hb, bitC_bs, ltN, cnN_win (fun k _ hk => shB_out hk)]
theorem hh_b (e : EqS N P H F T p h f t) (ok : SnOk N p h f t) {a b k : Nat} (ha : a < N) (hb : b < N) (hk : k < 24) : hhX (shH P H F T a b) (nI k) = shB p h f t b a k := by
  rw [sh_b e ok ha hb, hh_bs _ hk 13 (Nat.le_refl _)]
  by_cases c : 6 ≤ k ∧ k < 6 + 13
  · rw [decide_eq_true c, Bool.true_and, show 6 + (k - 6) = k by omega]
  · rw [decide_eq_false c, shB_out (b := b) (a := a) (k := k) (by omega)]
    rfl
theorem nr_any {a k : Nat} : ∀ n, (∀ i, i < n → awN p a i < 100) → ((nrN p h f t a k n).1.isSome = anyN (fun b => shB p h f t b a k) n) ∧ ((nrN p h f t a k n).1 = none → (nrN p h f t a k n).2 = 100) ∧ ∀ b, (nrN p h f t a k n).1 = some b → (nrN p h f t a k n).2 = awN p a b ∧ b < n
  | 0, _ => ⟨rfl, fun _ => rfl, fun b q => by cases q⟩
  | n + 1, h9 => by
    obtain ⟨i1, i2, i3⟩ := nr_any n (fun i hi => h9 i (by omega))
    have hn := h9 n (by omega)
    rw [nrN]
    by_cases c : shB p h f t n a k = true ∧ awN p a n < (nrN p h f t a k n).2
    · rw [if_pos c]
      refine ⟨?_, fun q => (by cases q), fun b q => (by cases q; exact ⟨rfl, by omega⟩)⟩
      rw [anyN, c.1, Bool.or_true]
      rfl
    · rw [if_neg c]
      refine ⟨?_, i2, fun b q => ⟨(i3 b q).1, by have := (i3 b q).2; omega⟩⟩
      rw [anyN, ← i1]
      cases d : (nrN p h f t a k n).1 with
      | some b => rfl
      | none =>
        have : ¬ shB p h f t n a k = true := fun q => c ⟨q, by rw [i2 d]; exact hn⟩
        rw [Bool.not_eq_true] at this
        rw [this]
        rfl
theorem aw_lt (ok : SnOk N p h f t) {a : Nat} (ha : a < N) : ∀ i, i < N → awN p a i < 100 := fun i hi => by
  have := (ok.2 a ha).1
  have := (ok.2 i hi).1
  unfold awN
  split <;> omega
theorem dkN_any (ok : SnOk N p h f t) {a k : Nat} (ha : a < N) : dkN p h f t N a k = anyN (fun b => shB p h f t b a k) N := (nr_any N (aw_lt ok ha)).1
theorem anyN_no {y : Nat → Bool} : ∀ {n : Nat}, (∀ j, j < n → y j = false) → anyN y n = false
  | 0, _ => rfl
  | n + 1, h => by rw [anyN, anyN_no (fun j hj => h j (by omega)), h n (by omega)]; rfl
theorem anyN_iff {y : Nat → Bool} : ∀ {n : Nat}, anyN y n = true ↔ ∃ j, j < n ∧ y j = true
  | 0 => by simp [anyN]
  | n + 1 => by
    rw [anyN, Bool.or_eq_true, anyN_iff]
    constructor
    · rintro (⟨j, h1, h2⟩ | h1)
      · exact ⟨j, by omega, h2⟩
      · exact ⟨n, by omega, h1⟩
    · rintro ⟨j, h1, h2⟩
      by_cases c : j = n
      · subst c; exact Or.inr h2
      · exact Or.inl ⟨j, by omega, h2⟩
theorem dkN_out (ok : SnOk N p h f t) {a k : Nat} (ha : a < N) (hk : k < 6 ∨ 18 < k) : dkN p h f t N a k = false := by
  rw [dkN_any ok ha]
  exact anyN_no (fun j _ => shB_out hk)
theorem dk_b (e : EqS N P H F T p h f t) (ok : SnOk N p h f t) {a : Nat} (ha : a < N) : dkG N P H F T a = bsB (fun j => dkN p h f t N a (6 + j)) 13 := by
  rw [dkG, orN_bs (Y := fun b j => shB p h f t b a (6 + j)) (fun b hb => sh_b e ok ha hb)]
  exact bsB_cong (fun j _ => (dkN_any ok ha).symm)
theorem lo_b (e : EqS N P H F T p h f t) (ok : SnOk N p h f t) {a : Nat} (ha : a < N) : bitC (dkG N P H F T a) = nI (loN p h f t N a) := by
  rw [dk_b e ok ha, bitC_bs]
  rfl
theorem hd_b (e : EqS N P H F T p h f t) (ok : SnOk N p h f t) {a k : Nat} (ha : a < N) (hk : k < 24) : hhX (dkG N P H F T a) (nI k) = dkN p h f t N a k := by
  rw [dk_b e ok ha, hh_bs _ hk 13 (Nat.le_refl _)]
  by_cases c : 6 ≤ k ∧ k < 6 + 13
  · rw [decide_eq_true c, Bool.true_and, show 6 + (k - 6) = k by omega]
  · rw [decide_eq_false c, dkN_out (k := k) ok ha (by omega)]
    rfl
theorem sumN_nI {g : Nat → Int32} {q : Nat → Nat} : ∀ {n : Nat}, (∀ i, i < n → g i = nI (q i)) → sumN g n = nI (smN q n)
  | 0, _ => rfl
  | n + 1, h => by rw [sumN, smN, sumN_nI (fun i hi => h i (by omega)), h n (by omega), nI_add]
theorem ca_b (e : EqS N P H F T p h f t) (ok : SnOk N p h f t) {b : Nat} (hb : b < N) : csG N P H F T b = nI (caN p h f t N b) := sumN_nI (fun a ha => lt_b e ok ha hb)
theorem al_b (e : EqS N P H F T p h f t) (ok : SnOk N p h f t) : laG N P H F T = nI (alN p h f t N) := sumN_nI (fun a ha => lo_b e ok ha)
theorem ab_b {x y : Nat} (hx : x < 100) (hy : y < 100) : absI (nI y - nI x) = nI (if x ≤ y then y - x else x - y) := by
  have key : ∀ d : Fin 100, absI (nI d.1) = nI d.1 ∧ absI (-nI d.1) = nI d.1 := by decide
  by_cases c : x ≤ y
  · rw [if_pos c, pk_sub c]
    exact (key ⟨y - x, by omega⟩).1
  · rw [if_neg c, ← Int32.neg_sub, pk_sub (by omega)]
    exact (key ⟨x - y, by omega⟩).2
theorem sm_b (e : EqS N P H F T p h f t) (ok : SnOk N p h f t) {a k : Nat} (ha : a < N) (hk : k < 24) : ∀ n, n ≤ N → sbM P (fun j => shH P H F T a j) a (nI k) n = (nrN p h f t a k n).1
  | 0, _ => rfl
  | n + 1, hn => by
    have ih := sm_b e ok ha hk n (by omega)
    obtain ⟨-, i2, i3⟩ := nr_any (p := p) (h := h) (f := f) (t := t) (a := a) (k := k) n (fun i hi => aw_lt ok ha i (by omega))
    have pa := (ok.2 a ha).1
    have hw : ∀ j, j < N → absI (P j - P a) = nI (awN p a j) := fun j hj => by rw [(e j hj).1, (e a ha).1, ab_b pa (ok.2 j hj).1]; rfl
    have hn100 := aw_lt ok ha n (by omega)
    rw [sbM, nrN, ih]
    have hb1 : ((shH P H F T a n >>> (nI k &&& 31)) &&& 1 = 1) ↔ shB p h f t n a k = true := by rw [← hh_1, hh_b e ok ha (by omega) hk]
    have hiff : ((shH P H F T a n >>> (nI k &&& 31)) &&& 1 = 1 ∧ ∀ t', (nrN p h f t a k n).1 = some t' → absI (P n - P a) < absI (P t' - P a)) ↔ (shB p h f t n a k = true ∧ awN p a n < (nrN p h f t a k n).2) := by
      rw [hb1]
      refine and_congr_right (fun _ => ?_)
      cases c : (nrN p h f t a k n).1 with
      | none =>
        rw [i2 c]
        exact ⟨fun _ => hn100, fun _ t' q => by cases q⟩
      | some b =>
        obtain ⟨h1, h2⟩ := i3 b c
        rw [h1]
        have hb100 := aw_lt ok ha b (by omega)
        constructor
        · intro q
          have := q b rfl
          rw [hw n (by omega), hw b (by omega)] at this
          exact (nI_ltI (by omega) (by omega)).mp this
        · intro q t' e9
          cases e9
          rw [hw n (by omega), hw b (by omega)]
          exact nI_lt q (by omega)
    by_cases c : shB p h f t n a k = true ∧ awN p a n < (nrN p h f t a k n).2
    · rw [if_pos (hiff.mpr c), if_pos c]
    · rw [if_neg (fun q => c (hiff.mp q)), if_neg c]
theorem on_op (x : Option Nat) : oN x = opI x := by cases x <;> rfl
theorem sbN_b (e : EqS N P H F T p h f t) (ok : SnOk N p h f t) {a k : Nat} (ha : a < N) (hk : k < 24) : oN (sbM P (fun j => shH P H F T a j) a (nI k) N) = opI (nrN p h f t a k N).1 := by rw [on_op, sm_b e ok ha hk N (Nat.le_refl _)]
theorem wl_b (e : EqS N P H F T p h f t) (ok : SnOk N p h f t) {a k : Nat} (ha : a < N) (hk : k < 24) : wallF (nI N) H F T (nI a) (nI k) = nI (tlN h f t a k) := by
  rw [wallF_nI ha ok.1, ← tw_b e ok ha hk, tl_wl (e.ft ok a ha) (by omega)]
  rfl
theorem rc_b (e : EqS N P H F T p h f t) (ok : SnOk N p h f t) {a k : Nat} (ha : a < N) (hk : k < 24) : wallF (nI N) H F T (nI a) (nI k) * stepsF (nI k) / 2 = nI (rcN h f t a k) := by
  have hts := ts_le ok ha hk
  rw [wl_b e ok ha hk, st_b ⟨k, hk⟩]
  dsimp only
  by_cases c : k < 6 ∨ 18 < k
  · rw [if_pos c, rcN, if_pos c, pk_mul, Nat.mul_zero]
    decide
  · rw [if_neg c, rcN, if_neg c, pk_mul]
    exact pk_div (a := tlN h f t a k * spN k) (d := 2) (by omega) (by decide) (by decide)
theorem shX_b {a b : Nat} (hN : N ≤ 12) (ha : a < N) (hb : b < N) : shX N P H F T (nI a) (nI b) = shH P H F T a b := by
  rw [shX, if_pos ⟨hasB_nI ha hN, hasB_nI hb hN⟩, nI_clamp (by omega), nI_clamp (by omega)]
end
