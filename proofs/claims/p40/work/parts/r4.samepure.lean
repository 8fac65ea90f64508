theorem J_dcmp {Z : GZ} {X : CX} {R : Room} {nL : Nat} {Q : State → Prop} {rc rs pc nx : Nat} {lv : List (Nat × Value)} {st : List Value} {ws : va_W} {cc : ByteArray} {own : String} {x y : UInt64} {op : CmpOp} (C : Cx Z X cc nL own) (d : dI cc pc (.dcmp op) 1 nx) (k9 : Jd Z X R nL Q rc rs nx lv (.int (Op.cmpValue (FP.dcmp x y) op) :: st) ws) : Jd Z X R nL Q rc rs pc lv (.double y :: .double x :: st) ws := by
  obtain ⟨d, rfl⟩ := d
  intro ls H locs cells slots hc hs hl hP hD hS
  exact lv_dcmp C.1 C.2.1 d (k9 ls H locs cells slots hc hs hl hP hD hS)
theorem dc_all : ∀ n, n < 12 → ∀ t, t < 157 → Op.cmpValue (FP.dcmp (FP.ddiv (FP.i2d (nI t)) (FP.i2d (nI (n + 1)))) (FP.ddiv (FP.i2d (nI t)) (FP.i2d (nI (n + 1))))) .l = 0 := by decide +kernel
theorem dc_ok {N t : Nat} (hN : N ≤ 12) (h0 : ¬ nI N = 0) (ht : t < 157) : Op.cmpValue (FP.dcmp (FP.ddiv (FP.i2d (nI t)) (FP.i2d (nI N))) (FP.ddiv (FP.i2d (nI t)) (FP.i2d (nI N)))) .l = 0 := by
  rcases N with _ | N
  · exact absurd rfl h0
  · exact dc_all N (by omega) t ht
/-- downwards: the place at a step -/
def dnI (n j : Nat) : Int32 := if j < n then nI (n - 1 - j) else -1
theorem dn_in {n j : Nat} (h : j < n) : dnI n j = nI (n - 1 - j) := if_pos h
theorem dn_out {n : Nat} : dnI n n = -1 := if_neg (Nat.lt_irrefl _)
theorem dn_step {n j a : Nat} (h : j < n) (ha : a = n - 1 - j) : nI a + (-1) = dnI n (j + 1) := by
  subst ha
  unfold dnI
  by_cases c : j + 1 < n
  · rw [if_pos c, show n - 1 - j = (n - 1 - (j + 1)) + 1 by omega, pk_m1]
  · rw [if_neg c, show n - 1 - j = 0 by omega]
    rfl
theorem dn_0 {n : Nat} (h : 0 < n) : nI n - 1 = dnI n 0 := by
  rw [dn_in h, show nI n - 1 = nI (n - 1) from pk_sub (b := 1) h]
  rfl
/-- counted downwards -/
def ctD (y : Nat → Bool) (n : Nat) : Nat → Nat
  | 0 => 0
  | j + 1 => ctD y n j + b2n (y (n - 1 - j))
theorem ctD_le (y : Nat → Bool) (n : Nat) : ∀ j, ctD y n j ≤ j
  | 0 => Nat.le_refl _
  | j + 1 => by
    have := ctD_le y n j
    rw [ctD, b2n]
    split <;> omega
theorem ctD_cn (y : Nat → Bool) (n : Nat) : ∀ j, j ≤ n → ctD y n j + cnN y (n - j) = cnN y n
  | 0, _ => by simp [ctD]
  | j + 1, h => by
    have ih := ctD_cn y n j (by omega)
    rw [show n - j = (n - 1 - j) + 1 by omega, cnN_s] at ih
    rw [ctD, show n - (j + 1) = n - 1 - j by omega]
    omega
theorem ctD_all (y : Nat → Bool) (n : Nat) : ctD y n n = cnN y n := by
  have := ctD_cn y n n (Nat.le_refl _)
  rw [Nat.sub_self] at this
  exact this
/-- the last of the most, from above -/
def wrD (g : Nat → Nat) (n : Nat) : Nat → Option Nat
  | 0 => none
  | j + 1 => match wrD g n j with
    | none => some (n - 1 - j)
    | some w => if g w ≤ g (n - 1 - j) then some (n - 1 - j) else some w
theorem wrD_ok {g : Nat → Nat} {n : Nat} : ∀ {j}, 0 < j → j ≤ n → ∃ w, wrD g n j = some w ∧ n - j ≤ w ∧ w < n ∧ (∀ i, n - j ≤ i → i < n → g i ≤ g w) ∧ ∀ i, n - j ≤ i → i < w → g i < g w
  | 0, h, _ => absurd h (Nat.lt_irrefl _)
  | 1, _, hn => ⟨n - 1, rfl, by omega, by omega, fun i h1 h2 => by rw [show i = n - 1 by omega]; exact Nat.le_refl _, fun i h1 h2 => by omega⟩
  | j + 2, _, hn => by
    obtain ⟨w, e, h1, h2, h3, h4⟩ := wrD_ok (g := g) (n := n) (j := j + 1) (by omega) (by omega)
    rw [wrD, e]
    dsimp only
    by_cases c : g w ≤ g (n - 1 - (j + 1))
    · rw [if_pos c]
      refine ⟨_, rfl, by omega, by omega, fun i i1 i2 => ?_, fun i i1 i2 => by omega⟩
      by_cases d : i = n - 1 - (j + 1)
      · rw [d]; exact Nat.le_refl _
      · exact Nat.le_trans (h3 i (by omega) i2) c
    · rw [if_neg c]
      refine ⟨w, rfl, by omega, h2, fun i i1 i2 => ?_, fun i i1 i2 => ?_⟩
      · by_cases d : i = n - 1 - (j + 1)
        · rw [d]; omega
        · exact h3 i (by omega) i2
      · by_cases d : i = n - 1 - (j + 1)
        · rw [d]; omega
        · exact h4 i (by omega) i2
theorem wrD_lt {g : Nat → Nat} {n j w : Nat} (hj : j ≤ n) (h : wrD g n j = some w) : w < n := by
  rcases Nat.eq_zero_or_pos j with e | e
  · subst e; cases h
  · obtain ⟨w', e1, -, e2, -⟩ := wrD_ok (g := g) e hj
    rw [h] at e1
    cases e1
    exact e2
theorem axN_ok {g : Nat → Nat} : ∀ {k}, 0 < k → axN g k < k ∧ (∀ i, i < k → g i ≤ g (axN g k)) ∧ ∀ i, i < axN g k → g i < g (axN g k)
  | 0, h => absurd h (Nat.lt_irrefl _)
  | 1, _ => by
    have e : axN g 1 = 0 := by rw [axN, show axN g 0 = 0 from rfl, if_neg (Nat.lt_irrefl _)]
    rw [e]
    exact ⟨by decide, fun i hi => by rw [show i = 0 by omega]; exact Nat.le_refl _, fun i hi => absurd hi (Nat.not_lt_zero _)⟩
  | k + 2, _ => by
    obtain ⟨h1, h2, h3⟩ := axN_ok (g := g) (k := k + 1) (by omega)
    rw [axN]
    by_cases c : g (axN g (k + 1)) < g (k + 1)
    · rw [if_pos c]
      refine ⟨by omega, fun i hi => ?_, fun i hi => ?_⟩
      · by_cases d : i = k + 1
        · rw [d]; exact Nat.le_refl _
        · have := h2 i (by omega); omega
      · have := h2 i (by omega); omega
    · rw [if_neg c]
      refine ⟨by omega, fun i hi => ?_, h3⟩
      by_cases d : i = k + 1
      · rw [d]; omega
      · exact h2 i (by omega)
theorem wrD_all {g : Nat → Nat} {n : Nat} (hn : 0 < n) : wrD g n n = some (axN g n) := by
  obtain ⟨w, e, h1, h2, h3, h4⟩ := wrD_ok (g := g) hn (Nat.le_refl n)
  obtain ⟨a1, a2, a3⟩ := axN_ok (g := g) hn
  rw [e]
  congr 1
  rcases Nat.lt_trichotomy w (axN g n) with c | c | c
  · have := a3 w c
    have := h3 _ (by omega) a1
    omega
  · exact c
  · have := h4 _ (by omega) c
    have := a2 w h2
    omega
theorem opI_neg {o : Option Nat} (h : ∀ w, o = some w → w < 1000) : opI o < 0 ↔ o = none := by
  cases o with
  | none => exact ⟨fun _ => rfl, fun _ => by decide⟩
  | some w => exact ⟨fun q => absurd q (nI_pos (n := w) (by have := h w rfl; omega)), fun q => by cases q⟩
theorem mod3 {k a : Nat} (h : k + a < 1000) : nI (k + a) - nI (k + a) / 3 * 3 = nI ((k + a) % 3) := pk_rem (a := k + a) (d := 3) (by omega) (by decide) (by decide)
theorem drk_up {y : Nat → Nat → Bool} {n j k : Nat} (hk : k < 24) (c : Nat) (e : c = ctD (y k) n j + b2n (y k (n - 1 - j))) : upd (fun i => if i < k then nI (ctD (y i) n (j + 1)) else nI (ctD (y i) n j)) k (nI c) = fun i => if i < k + 1 then nI (ctD (y i) n (j + 1)) else nI (ctD (y i) n j) := by
  funext i
  by_cases q : i = k
  · subst q
    simp only [upd, if_true]
    rw [if_pos (by omega), e]
    rfl
  · have h : i < k ↔ i < k + 1 := by omega
    simp [upd, q, h]
theorem drk_all {y : Nat → Nat → Bool} {n j : Nat} : ∀ i, i < 24 → (if i < 24 then nI (ctD (y i) n (j + 1)) else nI (ctD (y i) n j)) = nI (ctD (y i) n (j + 1)) := fun i hi => if_pos hi
