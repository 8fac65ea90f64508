/-! The law's own registry: its street in small numbers. -/
/-- a curfew's hour: 0 stands for none -/
def cuI (x : Nat) : Int32 := if x = 0 then -1 else nI x
/-- places, heights, first and last hours of curfews -/
def SnOk (n : Nat) (p h f t : Nat → Nat) : Prop := n ≤ 12 ∧ ∀ i, i < n → p i < 100 ∧ h i ≤ 30 ∧ ((f i = 0 ∧ t i = 0) ∨ (6 ≤ f i ∧ f i ≤ t i ∧ t i ≤ 18))
def tlN (h f t : Nat → Nat) (i k : Nat) : Nat := if f i ≠ 0 ∧ f i ≤ k ∧ k ≤ t i then 0 else h i
def spN (k : Nat) : Nat := if k < 12 then 12 - k else k - 12
def rcN (h f t : Nat → Nat) (i k : Nat) : Nat := if k < 6 ∨ 18 < k then 0 else tlN h f t i k * spN k / 2
/-- b shades a at the hour k, from d places away -/
def shD (h f t : Nat → Nat) (b a k d : Nat) : Bool := decide (d ≤ rcN h f t b k) && decide (tlN h f t a k < (tlN h f t b k * spN k - 2 * d) / spN k)
def shB (p h f t : Nat → Nat) (b a k : Nat) : Bool := if k < 12 then decide (p a < p b) && shD h f t b a k (p b - p a) else decide (p b < p a) && shD h f t b a k (p a - p b)
def cnN (y : Nat → Bool) : Nat → Nat
  | 0 => 0
  | k + 1 => if y k = true then cnN y k + 1 else cnN y k
def smN (g : Nat → Nat) : Nat → Nat
  | 0 => 0
  | k + 1 => smN g k + g k
/-- hours lost to one -/
def ltN (p h f t : Nat → Nat) (a b : Nat) : Nat := cnN (fun k => shB p h f t b a k) 24
def awN (p : Nat → Nat) (a b : Nat) : Nat := if p a ≤ p b then p b - p a else p a - p b
/-- the nearest that shades, and how far it is -/
def nrN (p h f t : Nat → Nat) (a k : Nat) : Nat → Option Nat × Nat
  | 0 => (none, 100)
  | b + 1 => if shB p h f t b a k = true ∧ awN p a b < (nrN p h f t a k b).2 then (some b, awN p a b) else nrN p h f t a k b
def opI : Option Nat → Int32
  | none => -1
  | some b => nI b
def dkN (p h f t : Nat → Nat) (n a k : Nat) : Bool := (nrN p h f t a k n).1.isSome
def loN (p h f t : Nat → Nat) (n a : Nat) : Nat := cnN (fun k => dkN p h f t n a (6 + k)) 13
def caN (p h f t : Nat → Nat) (n b : Nat) : Nat := smN (fun a => ltN p h f t a b) n
def alN (p h f t : Nat → Nat) (n : Nat) : Nat := smN (fun a => loN p h f t n a) n
def mxN (g : Nat → Nat) : Nat → Nat
  | 0 => 0
  | k + 1 => if mxN g k < g k then g k else mxN g k
theorem cnN_le (y : Nat → Bool) : ∀ k, cnN y k ≤ k
  | 0 => Nat.le_refl _
  | k + 1 => by
    have := cnN_le y k
    rw [cnN]
    split <;> omega
theorem smN_le {g : Nat → Nat} {c : Nat} : ∀ {k : Nat}, (∀ i, i < k → g i ≤ c) → smN g k ≤ k * c
  | 0, _ => by simp [smN]
  | k + 1, h => by
    have := smN_le (k := k) (fun i hi => h i (by omega))
    have := h k (by omega)
    rw [smN, Nat.succ_mul]
    omega
theorem mxN_le {g : Nat → Nat} {c : Nat} : ∀ {k : Nat}, (∀ i, i < k → g i ≤ c) → mxN g k ≤ c
  | 0, _ => by simp [mxN]
  | k + 1, h => by
    have := mxN_le (k := k) (fun i hi => h i (by omega))
    have := h k (by omega)
    rw [mxN]
    split <;> omega
theorem ltN_le (p h f t : Nat → Nat) (a b : Nat) : ltN p h f t a b ≤ 24 := cnN_le _ _
theorem loN_le (p h f t : Nat → Nat) (n a : Nat) : loN p h f t n a ≤ 13 := cnN_le _ _
theorem caN_le (p h f t : Nat → Nat) {n : Nat} (hn : n ≤ 12) (b : Nat) : caN p h f t n b ≤ 288 := by
  have := smN_le (g := fun a => ltN p h f t a b) (c := 24) (k := n) (fun i _ => ltN_le p h f t i b)
  unfold caN
  omega
theorem alN_le (p h f t : Nat → Nat) {n : Nat} (hn : n ≤ 12) : alN p h f t n ≤ 156 := by
  have := smN_le (g := fun a => loN p h f t n a) (c := 13) (k := n) (fun i _ => loN_le p h f t n i)
  unfold alN
  omega
theorem nrN_le (p h f t : Nat → Nat) (a k : Nat) : ∀ b, (nrN p h f t a k b).2 ≤ 100
  | 0 => Nat.le_refl _
  | b + 1 => by
    have := nrN_le p h f t a k b
    rw [nrN]
    split
    · rename_i h9
      dsimp only
      omega
    · exact this
theorem nrN_lt (p h f t : Nat → Nat) (a k : Nat) : ∀ b q, (nrN p h f t a k b).1 = some q → q < b
  | 0, q, h9 => by cases h9
  | b + 1, q, h9 => by
    rw [nrN] at h9
    split at h9
    · cases h9
      omega
    · have := nrN_lt p h f t a k b q h9
      omega
theorem tlN_le {n : Nat} {p h f t : Nat → Nat} (ok : SnOk n p h f t) {i : Nat} (hi : i < n) (k : Nat) : tlN h f t i k ≤ 30 := by
  unfold tlN
  split
  · omega
  · exact (ok.2 i hi).2.1
theorem spN_le {k : Nat} (hk : k < 24) : spN k ≤ 12 := by
  unfold spN
  split <;> omega
theorem mul_le {a b c d : Nat} (h : a ≤ c) (h2 : b ≤ d) : a * b ≤ c * d := Nat.mul_le_mul h h2
theorem ts_le {n : Nat} {p h f t : Nat → Nat} (ok : SnOk n p h f t) {i : Nat} (hi : i < n) {k : Nat} (hk : k < 24) : tlN h f t i k * spN k ≤ 360 := Nat.le_trans (mul_le (tlN_le ok hi k) (spN_le hk)) (by decide)
theorem cu_neg {x : Nat} (hx : x < 100) : cuI x < 0 ↔ x = 0 := by
  unfold cuI
  split
  · rename_i h
    exact ⟨fun _ => h, fun _ => by decide⟩
  · rename_i h
    exact ⟨fun q => absurd q (nI_pos (by omega)), fun q => absurd q h⟩
theorem cu_nI {x : Nat} (h : ¬ x = 0) : cuI x = nI x := if_neg h
theorem cu_inj {x y : Nat} (hx : x < 100) (hy : y < 100) : cuI x = cuI y ↔ x = y := by
  constructor
  · intro e
    have key : ∀ a : Fin 100, ∀ b : Fin 100, cuI a.1 = cuI b.1 → a.1 = b.1 := by decide +kernel
    exact key ⟨x, hx⟩ ⟨y, hy⟩ e
  · rintro rfl
    rfl
/-- a house's row -/
def rowF (p h f t : Nat → Nat) (i : Nat) : Nat → Int32 := fun k => if k = 0 then nI (p i) else if k = 1 then nI (h i) else if k = 2 then cuI (f i) else if k = 3 then cuI (t i) else 0
def lrwF (k w : Nat → Nat) (i : Nat) : Nat → Int32 := fun j => if j = 0 then nI (k i) else nI (w i)
def wRw (Z : GZ) (n : Nat) (rw p h f t : Nat → Nat) : va_W := (List.range n).map (fun j => (rw j, .inl (zA Z 0, 4, .inl (rowF p h f t j))))
def wLr (Z : GZ) (m : Nat) (lr k w : Nat → Nat) : va_W := (List.range m).map (fun j => (lr j, .inl (zA Z 0, 2, .inl (lrwF k w j))))
/-- the law's registry: its cell and its rows of references -/
def wSim (Z : GZ) (s n m hA lA oA tA eA : Nat) (fh fl fo ft fe : Nat → Option Nat) (dy ca : Int32) : va_W := [(s, .inr (8, [.ref hA, .ref lA, .ref oA, .ref tA, .ref eA, .int dy, .int ca])), (hA, .inl (zA Z 6, n, .inr (.inr (.inr (.inr fh))))), (lA, .inl (zA Z 6, m, .inr (.inr (.inr (.inr fl))))), (oA, .inl (zA Z 5, m, .inr (.inr (.inr (.inr fo))))), (tA, .inl (zA Z 5, m, .inr (.inr (.inr (.inr ft))))), (eA, .inl (zA Z 5, m, .inr (.inr (.inr (.inr fe)))))]
theorem mid_at {ws A B M : va_W} {i : Nat} {e : Nat × va_E} (h : ws = (A ++ M) ++ B) (hM : M[i]? = some e) : ws[A.length + i]? = some e := by
  subst h
  have hi : i < M.length := (List.getElem?_eq_some_iff.mp hM).1
  rw [List.getElem?_append_left (by rw [List.length_append]; omega), List.getElem?_append_right (by omega), Nat.add_sub_cancel_left]
  exact hM
theorem mid_set {ws A B M M2 : va_W} {i : Nat} {e : Nat × va_E} (h : ws = (A ++ M) ++ B) (hi : i < M.length) (hM : M.set i e = M2) : ws.set (A.length + i) e = (A ++ M2) ++ B := by
  subst h
  subst hM
  rw [List.set_append_left _ _ (by rw [List.length_append]; omega), List.set_append_right _ _ (by omega), Nat.add_sub_cancel_left]
theorem wRw_at {Z : GZ} {n i : Nat} {rw p h f t : Nat → Nat} (hi : i < n) : (wRw Z n rw p h f t)[i]? = some (rw i, .inl (zA Z 0, 4, .inl (rowF p h f t i))) := by
  simp [wRw, List.getElem?_map, List.getElem?_range hi]
theorem wLr_at {Z : GZ} {m i : Nat} {lr k w : Nat → Nat} (hi : i < m) : (wLr Z m lr k w)[i]? = some (lr i, .inl (zA Z 0, 2, .inl (lrwF k w i))) := by
  simp [wLr, List.getElem?_map, List.getElem?_range hi]
theorem wRw_len {Z : GZ} {n : Nat} {rw p h f t : Nat → Nat} : (wRw Z n rw p h f t).length = n := by simp [wRw]
def upN (f : Nat → Nat) (i x : Nat) : Nat → Nat := fun j => if j = i then x else f j
theorem map_set {α : Type} {n i : Nat} (g : Nat → α) (v : α) (hi : i < n) : ((List.range n).map g).set i v = (List.range n).map (fun j => if j = i then v else g j) := by
  apply List.ext_getElem?
  intro j
  rw [List.getElem?_set]
  by_cases e : i = j
  · subst e
    simp [hi, List.getElem?_map, List.getElem?_range]
  · rw [if_neg e]
    simp only [List.getElem?_map]
    by_cases hj : j < n
    · simp [List.getElem?_range hj, Ne.symm e]
    · simp [List.getElem?_eq_none (show (List.range n).length ≤ j by simp; omega)]
theorem wRw_set {Z : GZ} {n i : Nat} {rw p h f t p2 h2 f2 t2 : Nat → Nat} {r : Nat → Int32} (hi : i < n) (hr : r = rowF p2 h2 f2 t2 i) (ho : ∀ j, j < n → j ≠ i → p2 j = p j ∧ h2 j = h j ∧ f2 j = f j ∧ t2 j = t j) : (wRw Z n rw p h f t).set i (rw i, .inl (zA Z 0, 4, .inl r)) = wRw Z n rw p2 h2 f2 t2 := by
  subst hr
  rw [wRw, map_set _ _ hi, wRw]
  apply List.map_congr_left
  intro j hj
  have hj2 := List.mem_range.mp hj
  by_cases e : j = i
  · subst e; rw [if_pos rfl]
  · obtain ⟨a1, a2, a3, a4⟩ := ho j hj2 e
    rw [if_neg e]
    unfold rowF
    rw [a1, a2, a3, a4]
theorem row_p {p h f t : Nat → Nat} {i x : Nat} : upd (rowF p h f t i) 0 (nI x) = rowF (upN p i x) h f t i := by
  funext k
  by_cases e : k = 0 <;> simp [upd, rowF, upN, e]
theorem row_h {p h f t : Nat → Nat} {i x : Nat} : upd (rowF p h f t i) 1 (nI x) = rowF p (upN h i x) f t i := by
  funext k
  by_cases e : k = 1 <;> simp [upd, rowF, upN, e]
theorem row_f {p h f t : Nat → Nat} {i x : Nat} : upd (rowF p h f t i) 2 (cuI x) = rowF p h (upN f i x) t i := by
  funext k
  by_cases e : k = 2
  · simp [upd, rowF, upN, e]
  · simp [upd, rowF, e]
theorem row_t {p h f t : Nat → Nat} {i x : Nat} : upd (rowF p h f t i) 3 (cuI x) = rowF p h f (upN t i x) i := by
  funext k
  by_cases e : k = 3
  · simp [upd, rowF, upN, e]
  · simp [upd, rowF, e]
theorem rowF_0 (p h f t : Nat → Nat) (i : Nat) : rowF p h f t i 0 = nI (p i) := rfl
theorem rowF_1 (p h f t : Nat → Nat) (i : Nat) : rowF p h f t i 1 = nI (h i) := rfl
theorem rowF_2 (p h f t : Nat → Nat) (i : Nat) : rowF p h f t i 2 = cuI (f i) := rfl
theorem rowF_3 (p h f t : Nat → Nat) (i : Nat) : rowF p h f t i 3 = cuI (t i) := rfl
theorem tl_a {n : Nat} {p h f t : Nat → Nat} {i k : Nat} (ok : SnOk n p h f t) (hk : k < 2 ^ 31) (hi : i < n) (h8 : cuI (f i) < 0) : nI (h i) = nI (tlN h f t i k) := by
  have h1 := (cu_neg (by have := (ok.2 i hi).2.2; omega)).mp h8
  rw [tlN, if_neg (fun q => q.1 h1)]
theorem tl_b {n : Nat} {p h f t : Nat → Nat} {i k : Nat} (ok : SnOk n p h f t) (hk : k < 2 ^ 31) (hi : i < n) (h8 : ¬ cuI (f i) < 0) (h20 : nI k < cuI (f i)) : nI (h i) = nI (tlN h f t i k) := by
  have hx := (ok.2 i hi).2.2
  have h1 : ¬ f i = 0 := fun e => h8 ((cu_neg (by omega)).mpr e)
  rw [cu_nI h1] at h20
  rw [tlN, if_neg (fun q => absurd h20 (nI_nlt (a := k) (b := f i) q.2.1 hk))]
theorem tl_c {n : Nat} {p h f t : Nat → Nat} {i k : Nat} (ok : SnOk n p h f t) (hk : k < 2 ^ 31) (hi : i < n) (h8 : ¬ cuI (f i) < 0) (h20 : ¬ nI k < cuI (f i)) (h32 : cuI (t i) < nI k) : nI (h i) = nI (tlN h f t i k) := by
  have hx := (ok.2 i hi).2.2
  have h1 : ¬ f i = 0 := fun e => h8 ((cu_neg (by omega)).mpr e)
  have h2 : ¬ t i = 0 := by omega
  rw [cu_nI h2] at h32
  rw [tlN, if_neg (fun q => absurd h32 (nI_nlt (a := t i) (b := k) q.2.2 (by omega)))]
theorem tl_d {n : Nat} {p h f t : Nat → Nat} {i k : Nat} (ok : SnOk n p h f t) (hk : k < 2 ^ 31) (hi : i < n) (h8 : ¬ cuI (f i) < 0) (h20 : ¬ nI k < cuI (f i)) (h32 : ¬ cuI (t i) < nI k) : (0 : Int32) = nI (tlN h f t i k) := by
  have hx := (ok.2 i hi).2.2
  have h1 : ¬ f i = 0 := fun e => h8 ((cu_neg (by omega)).mpr e)
  have h2 : ¬ t i = 0 := by omega
  rw [cu_nI h1] at h20
  rw [cu_nI h2] at h32
  by_cases c : f i ≠ 0 ∧ f i ≤ k ∧ k ≤ t i
  · rw [tlN, if_pos c]; rfl
  · by_cases c1 : f i ≤ k
    · have c2 : ¬ k ≤ t i := fun q => c ⟨h1, c1, q⟩
      exact absurd (nI_lt (a := t i) (b := k) (by omega) hk) h32
    · exact absurd (nI_lt (a := k) (b := f i) (by omega) (by omega)) h20
theorem sub_lt1 {x y : Nat} (h : x ≤ y) (hy : y < 65536) : nI x - nI y < 1 := by
  rw [Int32.lt_iff_toInt_lt, pk_sub_toInt (by omega) (by omega)]
  have e : (1 : Int32).toInt = 1 := rfl
  omega
theorem sub_nneg {x y : Nat} (h : x < y) (hy : y < 65536) : ¬ 0 ≤ nI x - nI y := by
  rw [Int32.le_iff_toInt_le, pk_sub_toInt (by omega) (by omega), Int32.toInt_zero]
  omega
theorem neg_sub_nI {x y : Nat} (h : x ≤ y) : -(nI x - nI y) = nI (y - x) := by rw [Int32.neg_sub, pk_sub h]
theorem rc_pos {h f t : Nat → Nat} {b k d : Nat} (h1 : 1 ≤ d) (h2 : d ≤ rcN h f t b k) : 2 * d ≤ tlN h f t b k * spN k ∧ 0 < spN k ∧ 6 ≤ k ∧ k ≤ 18 := by
  unfold rcN at h2
  split at h2
  · omega
  · refine ⟨by omega, ?_, by omega, by omega⟩
    rcases Nat.eq_zero_or_pos (spN k) with e | e
    · rw [e, Nat.mul_zero] at h2
      omega
    · exact e
theorem rc_le {n : Nat} {p h f t : Nat → Nat} (ok : SnOk n p h f t) {i k : Nat} (hi : i < n) (hk : k < 24) : rcN h f t i k ≤ 180 := by
  have := ts_le ok hi hk
  unfold rcN
  split <;> omega
theorem op_neg {p h f t : Nat → Nat} {n a k : Nat} : dkN p h f t n a k = false → opI (nrN p h f t a k n).1 < 0 := by
  intro e
  have e2 : (nrN p h f t a k n).1 = none := by
    unfold dkN at e
    cases c : (nrN p h f t a k n).1
    · rfl
    · rw [c] at e; cases e
  rw [e2]
  decide
theorem op_pos {p h f t : Nat → Nat} {n a k : Nat} (hn : n ≤ 12) : dkN p h f t n a k = true → ¬ opI (nrN p h f t a k n).1 < 0 := by
  intro e
  unfold dkN at e
  cases c : (nrN p h f t a k n).1 with
  | none => rw [c] at e; cases e
  | some b =>
    have := nrN_lt p h f t a k n b c
    exact nI_pos (n := b) (by omega)
