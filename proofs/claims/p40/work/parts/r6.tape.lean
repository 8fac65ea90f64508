/-! The text on the tape. -/
/-- four places of a text, packed -/
def pkT (T : List Nat) (b : Nat) : Nat → Int32
  | 0 => 0
  | j + 1 => (pkT T b j <<< ((8 : Int32) &&& 31)) ||| nI (T.getD (b + j) 32)
/-- a text's bytes, padded -/
def tbT (T : List Nat) (q : Nat) : Nat → Int32 := fun i => if i < 20 * q then nI (T.getD i 32) else 0
theorem ta_or (a b : Nat) : nI a ||| nI b = nI (a ||| b) := by
  refine Int32.toBitVec_inj.mp (BitVec.eq_of_toNat_eq ?_)
  rw [Int32.toBitVec_or, BitVec.toNat_or]
  show (BitVec.ofNat 32 a).toNat ||| (BitVec.ofNat 32 b).toNat = (BitVec.ofNat 32 (a ||| b)).toNat
  rw [BitVec.toNat_ofNat, BitVec.toNat_ofNat, BitVec.toNat_ofNat]
  exact Nat.or_mod_two_pow.symm
theorem or8 {n c : Nat} (hn : n < 8388608) (hc : c < 128) : (nI n <<< ((8 : Int32) &&& 31)) ||| nI c = nI (256 * n + c) := by
  rw [pk_shlN ((8 : Int32) &&& 31) 8 (by decide) (by omega), show n * 2 ^ 8 = 2 ^ 8 * n by omega]
  rw [ta_or, ← Nat.two_pow_add_eq_or_of_lt (i := 8) (by omega)]
def pkV (T : List Nat) (b : Nat) : Nat := 256 * (256 * (256 * T.getD b 32 + T.getD (b + 1) 32) + T.getD (b + 2) 32) + T.getD (b + 3) 32
theorem pkT_4 {T : List Nat} (hT : ∀ i, T.getD i 32 < 128) (b : Nat) : pkT T b 4 = nI (pkV T b) := by
  have h0 := hT b
  have h1 := hT (b + 1)
  have h2 := hT (b + 2)
  have h3 := hT (b + 3)
  have e1 : pkT T b 1 = nI (T.getD b 32) := by
    rw [pkT, pkT, show (0 : Int32) <<< ((8 : Int32) &&& 31) = nI 0 from by decide, Nat.add_zero, ta_or, Nat.zero_or]
  have e2 : pkT T b 2 = nI (256 * T.getD b 32 + T.getD (b + 1) 32) := by rw [pkT, e1, or8 (by omega) h1]
  have e3 : pkT T b 3 = nI (256 * (256 * T.getD b 32 + T.getD (b + 1) 32) + T.getD (b + 2) 32) := by rw [pkT, e2, or8 (by omega) h2]
  rw [pkT, e3, or8 (by omega) h3, pkV]
theorem i8_lo : ∀ n, n < 128 → vp_nar .byte (nI n).toInt8.toInt32 = nI n := by decide +kernel
theorem i8_md (m : Nat) : (nI m).toInt8 = (nI (m % 256)).toInt8 := by
  apply Int8.toBitVec_inj.mp
  apply BitVec.eq_of_toNat_eq
  rw [Int32.toBitVec_toInt8, Int32.toBitVec_toInt8, BitVec.signExtend_eq_setWidth_of_le _ (by decide), BitVec.signExtend_eq_setWidth_of_le _ (by decide), BitVec.toNat_setWidth, BitVec.toNat_setWidth]
  show (Int32.ofNat m).toBitVec.toNat % 2 ^ 8 = (Int32.ofNat (m % 256)).toBitVec.toNat % 2 ^ 8
  rw [show (Int32.ofNat m).toBitVec = BitVec.ofNat 32 m from rfl, show (Int32.ofNat (m % 256)).toBitVec = BitVec.ofNat 32 (m % 256) from rfl, BitVec.toNat_ofNat, BitVec.toNat_ofNat]
  omega
theorem by_v {v : Nat} (hv : v < 2147483648) (s : Int32) (k c : Nat) (hs : ((s &&& 31).toBitVec.smod 32).toNat = k) (hc : c < 128) (e : v / 2 ^ k % 256 = c) : byF (nI v) s = nI c := by
  rw [byF, pk_shrN hv (s &&& 31) k hs, i8_md, e]
  exact i8_lo c hc
theorem ap_1 {T : List Nat} (hT : ∀ i, T.getD i 32 < 128) (tb : Nat → Int32) (b : Nat) : apF tb b (pkT T b 4) = upd (upd (upd (upd tb b (nI (T.getD b 32))) (b + 1) (nI (T.getD (b + 1) 32))) (b + 2) (nI (T.getD (b + 2) 32))) (b + 3) (nI (T.getD (b + 3) 32)) := by
  have h0 := hT b
  have h1 := hT (b + 1)
  have h2 := hT (b + 2)
  have h3 := hT (b + 3)
  have hv : pkV T b < 2147483648 := by unfold pkV; omega
  rw [pkT_4 hT, apF, by_v hv 24 24 (T.getD b 32) (by decide) h0 (by unfold pkV; omega), by_v hv 16 16 (T.getD (b + 1) 32) (by decide) h1 (by unfold pkV; omega), by_v hv 8 8 (T.getD (b + 2) 32) (by decide) h2 (by unfold pkV; omega), by_v hv 0 0 (T.getD (b + 3) 32) (by decide) h3 (by unfold pkV; omega)]
theorem ap_q {T : List Nat} (hT : ∀ i, T.getD i 32 < 128) (q : Nat) : apF (apF (apF (apF (apF (tbT T q) (20 * q) (pkT T (20 * q) 4)) (20 * q + 4) (pkT T (20 * q + 4) 4)) (20 * q + 8) (pkT T (20 * q + 8) 4)) (20 * q + 12) (pkT T (20 * q + 12) 4)) (20 * q + 16) (pkT T (20 * q + 16) 4) = tbT T (q + 1) := by
  rw [ap_1 hT, ap_1 hT, ap_1 hT, ap_1 hT, ap_1 hT]
  funext i
  by_cases c : i < 20 * q
  · simp only [upd, tbT]
    rw [if_neg (by omega), if_neg (by omega), if_neg (by omega), if_neg (by omega), if_neg (by omega), if_neg (by omega), if_neg (by omega), if_neg (by omega), if_neg (by omega), if_neg (by omega), if_neg (by omega), if_neg (by omega), if_neg (by omega), if_neg (by omega), if_neg (by omega), if_neg (by omega), if_neg (by omega), if_neg (by omega), if_neg (by omega), if_neg (by omega), if_pos c, if_pos (by omega)]
  · by_cases d : i < 20 * q + 20
    · obtain ⟨j, hj, rfl⟩ : ∃ j, j < 20 ∧ i = 20 * q + j := ⟨i - 20 * q, by omega, by omega⟩
      have hj9 : j = 0 ∨ j = 1 ∨ j = 2 ∨ j = 3 ∨ j = 4 ∨ j = 5 ∨ j = 6 ∨ j = 7 ∨ j = 8 ∨ j = 9 ∨ j = 10 ∨ j = 11 ∨ j = 12 ∨ j = 13 ∨ j = 14 ∨ j = 15 ∨ j = 16 ∨ j = 17 ∨ j = 18 ∨ j = 19 := by omega
      rw [show tbT T (q + 1) (20 * q + j) = nI (T.getD (20 * q + j) 32) from if_pos (by omega)]
      rcases hj9 with rfl | rfl | rfl | rfl | rfl | rfl | rfl | rfl | rfl | rfl | rfl | rfl | rfl | rfl | rfl | rfl | rfl | rfl | rfl | rfl <;> simp [upd, Nat.add_assoc]
    · simp only [upd, tbT]
      rw [if_neg (by omega), if_neg (by omega), if_neg (by omega), if_neg (by omega), if_neg (by omega), if_neg (by omega), if_neg (by omega), if_neg (by omega), if_neg (by omega), if_neg (by omega), if_neg (by omega), if_neg (by omega), if_neg (by omega), if_neg (by omega), if_neg (by omega), if_neg (by omega), if_neg (by omega), if_neg (by omega), if_neg (by omega), if_neg (by omega), if_neg c, if_neg (by omega)]
theorem tbT_0 (T : List Nat) : tbT T 0 = fun _ => 0 := by
  funext i
  simp [tbT]
theorem tbT_sg {T : List Nat} {q : Nat} (hT : ∀ i, T.getD i 32 < 128) (hq : T.length ≤ 20 * q) (hl : T.length ≤ 2000) {i : Nat} (hi : i < 100000) : sgN T.length (tbT T q) i = if i < T.length then nI (T.getD i 0) else -1 := by
  unfold sgN sgF
  by_cases c : i < T.length
  · rw [if_pos c, if_neg, nI_clamp (by omega), tbT, if_pos (by omega)]
    · have h := hT i
      have e : T.getD i 32 = T.getD i 0 := by
        simp only [List.getD_eq_getElem?_getD, List.getElem?_eq_getElem c, Option.getD_some]
      rw [e] at h ⊢
      have key : ∀ n, n < 128 → nI n &&& 255 = nI n := by decide +kernel
      exact key _ h
    · rintro (h | h | h)
      · exact nI_pos (n := i) (by omega) h
      · exact nI_ge (a := i) (b := T.length) c (by omega) h
      · exact h (nI_lt (a := i) (b := 2000) (by omega) (by decide))
  · rw [if_neg c, if_pos]
    exact Or.inr (Or.inl (nI_le (by omega) (by omega)))
