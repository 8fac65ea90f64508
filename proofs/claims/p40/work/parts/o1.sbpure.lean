/-! Blocks: rows of each kind, a text builder, a text. -/
def arrI (Z : GZ) (x N : Nat) (f : Nat → Int32) : va_W := [(x, .inl (zA Z 0, N, .inl f))]
def arrB (Z : GZ) (x N : Nat) (f : Nat → Int32) : va_W := [(x, .inl (zA Z 2, N, .inl f))]
def arrZ (Z : GZ) (x N : Nat) (f : Nat → Int32) : va_W := [(x, .inl (zA Z 8, N, .inl f))]
def arrS (Z : GZ) (x N : Nat) (f : Nat → Option Nat) : va_W := [(x, .inl (zA Z 7, N, .inr (.inr (.inr (.inr f)))))]
def arrT (Z : GZ) (x N : Nat) (f : Nat → Option Nat) : va_W := [(x, .inl (zA Z 5, N, .inr (.inr (.inr (.inr f)))))]
def arrA (Z : GZ) (x N : Nat) (f : Nat → Option Nat) : va_W := [(x, .inl (zA Z 6, N, .inr (.inr (.inr (.inr f)))))]
/-- a text builder: its cell x, its bytes y, of which n are taken -/
def wSb (Z : GZ) (x y cap : Nat) (n : Int32) (b : Nat → Int32) : va_W := [(x, .inr (11, [.ref y, .int 0, .int 0, .int n])), (y, .inl (zA Z 2, cap, .inl b))]
def wS0 (_ : GZ) (x : Nat) : va_W := [(x, .inr (11, [.null, .int 0, .int 0, .int 0]))]
/-- a text -/
def wTx (Z : GZ) (x y N : Nat) (b : Nat → Int32) : va_W := [(x, .inr (10, [.ref y, .int 0, .int 0, .int 0])), (y, .inl (zA Z 2, N, .inl b))]
def wT0 (_ : GZ) (x : Nat) : va_W := [(x, .inr (10, [.null, .int 0, .int 0, .int 0]))]
def wSo (_ : GZ) (x y : Nat) (n : Int32) : va_W := [(x, .inr (11, [.ref y, .int 0, .int 0, .int n]))]
def wTo (_ : GZ) (x y : Nat) : va_W := [(x, .inr (10, [.ref y, .int 0, .int 0, .int 0]))]
/-- the bytes hold the text -/
def SbT (T : List Nat) (cap : Nat) (b : Nat → Int32) : Prop := T.length ≤ cap ∧ cap ≤ 4002 ∧ sb_Fit b ∧ ∀ i, i < T.length → b i = nI (T.getD i 0)
def TxT (T : List Nat) (b : Nat → Int32) : Prop := sb_Fit b ∧ ∀ i, i < T.length → b i = nI (T.getD i 0)
/-- the constant texts -/
def cTx (i : Nat) : List Nat := (wByt.getD i []).map Int32.toNatClampNeg
def cBy (i : Nat) : Nat → Int32 := fun j => (wByt.getD i []).getD j 0
theorem cTx_len : ∀ i, i < 43 → (cTx i).length = wLen.getD i 0 := by decide +kernel
theorem cTx_le : ∀ i, i < 43 → (cTx i).length ≤ 12 := by decide +kernel
theorem cTx_ok : ∀ i, i < 43 → TxT (cTx i) (cBy i) := by
  intro i hi
  refine ⟨fun j => wByt_fit i hi j, fun j hj => ?_⟩
  have h1 : ∀ i, i < 43 → ∀ j, j < 12 → cBy i j = nI ((cTx i).getD j 0) := by decide +kernel
  exact h1 i hi j (Nat.lt_of_lt_of_le hj (cTx_le i hi))
theorem nl_eq {q m : Nat} (h : m < q) (hq : q ≤ 65536) : nI m + (if nI (q - m) < nI (m + 2) then nI (m + 2) else nI (q - m)) = nI (sb_cap q m) := by
  have hc : sb_cap q m = m + (if q - m < m + 2 then m + 2 else q - m) := by
    unfold sb_cap
    rw [if_neg (by omega)]
    split <;> split <;> omega
  rw [hc]
  by_cases h2 : q - m < m + 2
  · rw [if_pos h2, if_pos (nI_lt h2 (by omega))]
    exact nI_add m (m + 2)
  · rw [if_neg h2, if_neg (nI_nlt (by omega) (by omega))]
    exact nI_add m (q - m)
theorem sub_le0 {q m : Nat} (h : q ≤ m) (hm : m ≤ 65536) : nI q - nI m ≤ 0 := by
  rw [Int32.le_iff_toInt_le, pk_sub_toInt (by omega) (by omega), Int32.toInt_zero]
  omega
theorem sub_nle0 {q m : Nat} (h : m < q) (hq : q ≤ 65536) : ¬ nI q - nI m ≤ 0 := by
  rw [Int32.le_iff_toInt_le, pk_sub_toInt (by omega) (by omega), Int32.toInt_zero]
  omega
theorem cap_2 {q m : Nat} (h : m < q) : sb_cap q m ≤ 2 * q + 2 := by
  unfold sb_cap
  split
  · omega
  · split <;> omega
theorem cap_4 {q m : Nat} (hq : q ≤ 2000) (hm : m ≤ 4002) : sb_cap q m ≤ 4002 := by
  unfold sb_cap
  split
  · omega
  · split <;> omega
theorem getD_app {S T : List Nat} {i : Nat} : (S ++ T).getD i 0 = if i < S.length then S.getD i 0 else T.getD (i - S.length) 0 := by
  simp only [List.getD_eq_getElem?_getD]
  split
  · rw [List.getElem?_append_left (by assumption)]
  · rw [List.getElem?_append_right (by omega)]
/-- a text set behind another -/
theorem app_ok {T S : List Nat} {cap : Nat} {b b' tb : Nat → Int32} (h : SbT T cap b) (hS : TxT S tb) (hf : sb_Fit b') (hb : ∀ i, i < cap → b' i = b i) (hl : T.length + S.length ≤ 2000) : SbT (T ++ S) (sb_cap (T.length + S.length) cap) (va_cpy tb b' 0 T.length S.length) := by
  obtain ⟨h1, h2, h3, h4⟩ := h
  refine ⟨by rw [List.length_append]; exact sb_cap_ge _ _, cap_4 hl h2, sb_fitC hS.1 hf, fun i hi => ?_⟩
  rw [List.length_append] at hi
  rw [getD_app]
  by_cases e : i < T.length
  · rw [if_pos e, pk_cpy_out (Or.inl e), hb i (by omega), h4 i e]
  · rw [if_neg e, pk_cpy_in (by omega) (by omega), Nat.zero_add, hS.2 _ (by omega)]
theorem sb_new : SbT [] 16 (fun _ => 0) := ⟨by simp, by decide, sb_fit0, fun i h => absurd h (by simp)⟩
