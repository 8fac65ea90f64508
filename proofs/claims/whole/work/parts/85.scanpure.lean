theorem sub_nI48 {d : Nat} : nI (48 + d) - nI 48 = nI d := sub_nI 48 d
theorem sub_nI97 {d : Nat} : nI (97 + d) - nI 97 = nI d := sub_nI 97 d
def nmI (m : Nat) (tb : Nat → Int32) (s : Nat) : Nat → Int32
  | 0 => 0
  | k + 1 => 10 * nmI m tb s k + sgN m tb (s + k) - 48
theorem sg_in2 {m p : Nat} {tb : Nat → Int32} (h : sgN m tb p ≠ -1) (hp : p < 2147483648) : p < m := by
  rcases Nat.lt_or_ge p m with c | c
  · exact c
  · exact absurd (sg_out c hp) h
theorem dig_ex {b : Int32} (h : isDig b = true) : ∃ d : Nat, d < 10 ∧ b = nI (48 + d) := by
  simp only [isDig, Bool.and_eq_true, Bool.not_eq_true', decide_eq_false_iff_not] at h
  have h1 := Int32.le_iff_toInt_le.mp (Int32.not_lt.mp h.1)
  have h2 := Int32.le_iff_toInt_le.mp (Int32.not_lt.mp h.2)
  have e1 : (48 : Int32).toInt = 48 := rfl
  have e2 : (57 : Int32).toInt = 57 := rfl
  refine ⟨b.toInt.toNat - 48, by omega, Int32.toInt_inj.mp ?_⟩
  rw [nI_toInt (by omega)]; omega
theorem let_ex {b : Int32} (h : isLet b = true) : ∃ d : Nat, d < 26 ∧ b = nI (97 + d) := by
  simp only [isLet, Bool.and_eq_true, Bool.not_eq_true', decide_eq_false_iff_not] at h
  have h1 := Int32.le_iff_toInt_le.mp (Int32.not_lt.mp h.1)
  have h2 := Int32.le_iff_toInt_le.mp (Int32.not_lt.mp h.2)
  have e1 : (97 : Int32).toInt = 97 := rfl
  have e2 : (122 : Int32).toInt = 122 := rfl
  refine ⟨b.toInt.toNat - 97, by omega, Int32.toInt_inj.mp ?_⟩
  rw [nI_toInt (by omega)]; omega
theorem nI_L {n : Nat} (h : n < 2147483648) : (nI n).toInt64 = Int64.ofNat n := by
  apply Int64.toInt_inj.mp
  rw [Int32.toInt_toInt64, nI_toInt h, Int64.toInt_ofNat_of_lt (by omega)]
theorem dig_not1 {b : Int32} (h : isDig b = true) : b ≠ -1 := fun e => by rw [e] at h; exact absurd h (by decide)
theorem let_not1 {b : Int32} (h : isLet b = true) : b ≠ -1 := fun e => by rw [e] at h; exact absurd h (by decide)
theorem num_ex {m : Nat} {tb : Nat → Int32} {s : Nat} : ∀ k, k ≤ 6 → (∀ j, j < k → isDig (sgN m tb (s + j)) = true) → ∃ n : Nat, n < 10 ^ k ∧ nmI m tb s k = nI n ∧ nVal m tb s k = Int64.ofNat n
  | 0, _, _ => ⟨0, by decide, rfl, rfl⟩
  | k + 1, hk, h => by
    obtain ⟨n, h1, h2, h3⟩ := num_ex k (by omega) (fun j hj => h j (by omega))
    obtain ⟨d, hd, hb⟩ := dig_ex (h k (by omega))
    have hp : 10 ^ k ≤ 10 ^ 5 := Nat.pow_le_pow_right (by decide) (by omega)
    refine ⟨n * 10 + d, ?_, ?_, ?_⟩
    · rw [Nat.pow_succ]; omega
    · rw [nmI, h2, hb, show (10 : Int32) = nI 10 from rfl, pk_mul, nI_add, show 10 * n + (48 + d) = 48 + (n * 10 + d) by omega, show (48 : Int32) = nI 48 from rfl, sub_nI48]
    · rw [nVal, h3, hb, show (48 : Int32) = nI 48 from rfl, sub_nI48, nI_L (by omega), Int64.ofNat_add, Int64.ofNat_mul]
      rfl
theorem num_ok {m : Nat} {tb : Nat → Int32} {s k : Nat} (hk : k ≤ 6) (h : ∀ j, j < k → isDig (sgN m tb (s + j)) = true) : (nmI m tb s k).toInt64 = nVal m tb s k := by
  obtain ⟨n, h1, h2, h3⟩ := num_ex k hk h
  have hp : 10 ^ k ≤ 10 ^ 6 := Nat.pow_le_pow_right (by decide) hk
  rw [h2, h3, nI_L (by omega)]
theorem lt_ex {b : Int32} (h : (isLet b || isDig b) = true) : ∃ d : Nat, 1 ≤ d ∧ d ≤ 36 ∧ ltM b = nI d ∧ ltF b = nI d := by
  by_cases hl : isLet b = true
  · obtain ⟨d, hd, rfl⟩ := let_ex hl
    refine ⟨d + 1, by omega, by omega, ?_, ?_⟩
    · rw [ltM, if_pos hl, show (97 : Int32) = nI 97 from rfl, sub_nI97, show (1 : Int32) = nI 1 from rfl, nI_add]
    · have h9 : ¬ nI (97 + d) < (97 : Int32) := nI_nlt (a := 97 + d) (b := 97) (by omega) (by omega)
      rw [ltF, if_neg h9, show (97 : Int32) = nI 97 from rfl, sub_nI97, show (1 : Int32) = nI 1 from rfl, nI_add]
  · have hd : isDig b = true := by simpa [hl] using h
    obtain ⟨d, hd, rfl⟩ := dig_ex hd
    refine ⟨d + 27, by omega, by omega, ?_, ?_⟩
    · rw [ltM, if_neg hl, show (48 : Int32) = nI 48 from rfl, sub_nI48, show (27 : Int32) = nI 27 from rfl, nI_add]
    · have h9 : nI (48 + d) < (97 : Int32) := nI_lt (a := 48 + d) (b := 97) (by omega) (by omega)
      rw [ltF, if_pos h9, show (48 : Int32) = nI 48 from rfl, sub_nI48, show (27 : Int32) = nI 27 from rfl, nI_add]
theorem wv_s {m : Nat} {tb : Nat → Int32} {s k : Nat} (h : (isLet (sgN m tb (s + k)) || isDig (sgN m tb (s + k))) = true) : 37 * wVal m tb s k + (ltM (sgN m tb (s + k))).toInt64 = wVal m tb s (k + 1) := by
  obtain ⟨d, -, -, h1, h2⟩ := lt_ex h
  rw [wVal, lnF, h1, h2, Int64.mul_comm]
theorem word_ex {m : Nat} {tb : Nat → Int32} {s : Nat} : ∀ k, k ≤ 10 → (∀ j, j < k → (isLet (sgN m tb (s + j)) || isDig (sgN m tb (s + j))) = true) → ∃ n : Nat, n < 37 ^ k ∧ (1 ≤ k → 1 ≤ n) ∧ wVal m tb s k = Int64.ofNat n
  | 0, _, _ => ⟨0, by decide, fun h => absurd h (by decide), rfl⟩
  | k + 1, hk, h => by
    obtain ⟨n, h1, h2, h3⟩ := word_ex k (by omega) (fun j hj => h j (by omega))
    obtain ⟨d, d1, d2, d3, d4⟩ := lt_ex (h k (by omega))
    refine ⟨n * 37 + d, ?_, fun _ => by omega, ?_⟩
    · rw [Nat.pow_succ]; omega
    · rw [wVal, lnF, h3, d4, nI_L (by omega), Int64.ofNat_add, Int64.ofNat_mul]
      rfl
theorem word_ne {m : Nat} {tb : Nat → Int32} {s k : Nat} (hk : k ≤ 10) (h1 : 1 ≤ k) (h : ∀ j, j < k → (isLet (sgN m tb (s + j)) || isDig (sgN m tb (s + j))) = true) : wVal m tb s k ≠ 0 := by
  obtain ⟨n, h2, h3, h4⟩ := word_ex k hk h
  have hp : 37 ^ k ≤ 37 ^ 10 := Nat.pow_le_pow_right (by decide) hk
  intro e
  rw [h4] at e
  have := congrArg Int64.toInt e
  rw [Int64.toInt_ofNat_of_lt (by omega)] at this
  have h5 := h3 h1
  simp at this
  omega
theorem kWd_hi : ∀ j, j < 43 → 24 ≤ j → kWd.getD j 0 = 0 := by decide
theorem kw_lt {v : Int64} {k : Nat} (h : kwO v = some k) (hv : v ≠ 0) : k < 24 := by
  obtain ⟨h1, h2, -⟩ := fstN_spec h
  rcases Nat.lt_or_ge k 24 with c | c
  · exact c
  · rw [kWd_hi k h1 c] at h2
    exact absurd (beq_iff_eq.mp h2).symm hv
theorem kw_none {v : Int64} (hv : v ≠ 0) (h : ∀ j, j < 24 → ¬ kWd.getD j 0 = v) : kwO v = none := kwO_none (fun j hj => by
  rcases Nat.lt_or_ge j 24 with c | c
  · exact h j c
  · rw [kWd_hi j hj c]; exact hv.symm)
theorem km_lo {k : Nat} (h : k < 24) : km k = nI k := by unfold km; exact if_pos h
def nk (k : Nat) : Bool := k != 39 && k != 40
theorem ite_nk {c : Prop} [Decidable c] {a b : Nat} (ha : nk a = true) (hb : nk b = true) : nk (if c then a else b) = true := by
  split
  · exact ha
  · exact hb
theorem sy_nk (b nx : Int32) : nk (syK b nx) = true := by
  unfold syK symK
  repeat (first | exact rfl | refine ite_nk rfl ?_)
theorem sy_out (b nx : Int32) : syK b nx ≠ 39 ∧ syK b nx ≠ 40 := by
  have h := sy_nk b nx
  simp only [nk, Bool.and_eq_true, bne_iff_ne] at h
  exact h
/-- the value that counts -/
def tkVM (m : Nat) (tb : Nat → Int32) (s : Nat) : Int64 := if isLet (sgN m tb s) = true then wdV m tb s else nmV m tb s

