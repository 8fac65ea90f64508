theorem inX_f {x l h : Int32} (e : inX x l h = false) : x < l ∨ h < x := by
  by_cases a : x < l
  · exact Or.inl a
  · by_cases b : h < x
    · exact Or.inr b
    · exfalso
      rw [inX, decide_eq_false a, decide_eq_false b] at e
      exact absurd e (by decide)
theorem inX_t {x l h : Int32} (e : inX x l h = true) : ¬ (x < l ∨ h < x) := by
  rintro (a | a)
  · rw [inX, decide_eq_true a] at e; exact absurd e (by simp)
  · rw [inX, decide_eq_true a] at e; exact absurd e (by simp)
theorem nI_rng {n a b : Nat} (h1 : a ≤ n) (h2 : n ≤ b) (hb : b < 2147483648) : ¬ (nI n < nI a ∨ nI b < nI n) := by
  rintro (z | z)
  · exact nI_nlt (a := n) (b := a) h1 (by omega) z
  · exact nI_nlt (a := b) (b := n) h2 (by omega) z
theorem shX_nI {N i j : Nat} {P H F T : Nat → Int32} (hi : i < N) (hj : j < N) (hN : N ≤ 12) : shX N P H F T (nI i) (nI j) = shH P H F T i j := by
  rw [shX, if_pos ⟨hasB_nI hi hN, hasB_nI hj hN⟩, nI_clamp (by omega), nI_clamp (by omega)]
theorem hr_nI {x : Int32} (h : ¬ (x < 0 ∨ 24 ≤ x)) : ∃ k, k < 24 ∧ x = nI k := by
  obtain ⟨t, h1, h2⟩ := in_nI (x := x) (m := 23) (by decide) (fun e => h (e.imp id (fun z => by
    have := Int32.lt_iff_toInt_lt.mp z
    rw [Int32.le_iff_toInt_le]
    have e1 : (24 : Int32).toInt = 24 := rfl
    have e2 : (nI 23 : Int32).toInt = 23 := rfl
    omega)))
  exact ⟨t, by omega, h2⟩
theorem tl_wallF {N i : Nat} {H F T : Nat → Int32} {x : Int32} (hi : i < N) (hN : N ≤ 12) (hF : FTok N F T) (h : ¬ (x < 0 ∨ 24 ≤ x)) : tlM H F T i x = wallF (nI N) H F T (nI i) x := by
  obtain ⟨k, hk, rfl⟩ := hr_nI h
  rw [tl_wl (hF i hi) (by omega), wallF_nI hi hN, wlF]
theorem sp_st {x : Int32} (h : ¬ (x < 0 ∨ 24 ≤ x)) : spM x = stepsF x := by
  obtain ⟨k, hk, rfl⟩ := hr_nI h
  have key : ∀ k, k < 24 → spM (nI k) = stepsF (nI k) := by decide
  exact key k hk
theorem sgN_at {m p : Nat} {tb : Nat → Int32} (hp : p < m) (hm : m ≤ 2000) : sgN m tb p = tb p &&& 255 := by
  rw [sgN, sgF]
  rw [if_neg, nI_clamp (by omega)]
  rintro (z | z | z)
  · exact nI_pos (n := p) (by omega) z
  · exact nI_ge (a := p) (b := m) hp (by omega) z
  · exact z (nI_lt (a := p) (b := 2000) (by omega) (by omega))
theorem b255 : ∀ i, i < 32 → ¬ i < 8 → (255#32).getLsbD i = false := by decide
theorem by_key (y : Int32) : y.toInt8.toInt32 &&& 255 = y &&& 255 := by
  apply Int32.toBitVec_inj.mp
  rw [Int32.toBitVec_and, Int32.toBitVec_and, Int8.toBitVec_toInt32, Int32.toBitVec_toInt8, show (255 : Int32).toBitVec = 255#32 from rfl]
  apply BitVec.eq_of_getLsbD_eq
  intro i hi
  rw [BitVec.getLsbD_and, BitVec.getLsbD_and]
  by_cases c : i < 8
  · have e : (BitVec.signExtend 32 (BitVec.signExtend 8 y.toBitVec)).getLsbD i = y.toBitVec.getLsbD i := by
      rw [BitVec.getLsbD_signExtend, if_pos c, BitVec.getLsbD_signExtend, if_pos hi, decide_eq_true c, decide_eq_true hi, Bool.true_and, Bool.true_and]
    rw [e]
  · rw [b255 i hi c, Bool.and_false, Bool.and_false]
/-- a byte of the class's tape is the model's -/
theorem by_255 (x s : Int32) : byF x s &&& 255 = (x >>> (s &&& 31)) &&& 255 := by
  have e : byF x s = (x >>> (s &&& 31)).toInt8.toInt32.toInt8.toInt32 := rfl
  rw [e, by_key, by_key]
theorem fdM_at {tp five : Nat → Int32} {s p : Nat} : ∀ n, fdM tp five s n p = if s ≤ p ∧ p < s + n then (five ((p - s) / 4) >>> ((24 - 8 * nI ((p - s) % 4)) &&& 31)) &&& 255 else tp p
  | 0 => by rw [fdM, if_neg (by omega)]
  | n + 1 => by
    rw [fdM]
    by_cases c : p = s + n
    · subst c
      rw [upd_s, if_pos (by omega), show s + n - s = n by omega]
    · rw [upd_n c, fdM_at n]
      by_cases d : s ≤ p ∧ p < s + n
      · rw [if_pos d, if_pos (by omega)]
      · rw [if_neg d, if_neg (by omega)]
theorem sh4 : ∀ k, k < 4 → (24 : Int32) - 8 * nI k = [24, 16, 8, 0].getD k 0 := by decide
theorem apF_at {tb : Nat → Int32} {m p : Nat} {x : Int32} : apF tb m x p = if m ≤ p ∧ p < m + 4 then byF x (24 - 8 * nI (p - m)) else tb p := by
  unfold apF
  by_cases c : m ≤ p ∧ p < m + 4
  · rw [if_pos c]
    have : p = m ∨ p = m + 1 ∨ p = m + 2 ∨ p = m + 3 := by omega
    rcases this with rfl | rfl | rfl | rfl
    · rw [upd_n (by omega), upd_n (by omega), upd_n (by omega), upd_s, Nat.sub_self]; rfl
    · rw [upd_n (by omega), upd_n (by omega), upd_s, show m + 1 - m = 1 by omega]; rfl
    · rw [upd_n (by omega), show m + 2 = m + 1 + 1 from rfl, upd_s, show m + 1 + 1 - m = 2 by omega]; rfl
    · rw [show m + 3 = m + 1 + 1 + 1 from rfl, upd_s, show m + 1 + 1 + 1 - m = 3 by omega]; rfl
  · rw [if_neg c, upd_n (by omega), upd_n (by omega), upd_n (by omega), upd_n (by omega)]
theorem feed_tape {tp tb A9 : Nat → Int32} {tm : Nat} {i0 i1 i2 i3 i4 : Int32} (hA : A9 = upd (upd (upd (upd (upd (fun _ => 0) 0 i0) 1 i1) 2 i2) 3 i3) 4 i4) (hm : tm ≤ 1980) (htp : ∀ p, p < tm → tp p = sgN tm tb p) : ∀ p, p < tm + 20 → fdM tp A9 tm 20 p = sgN (tm + 20) (apF (apF (apF (apF (apF tb tm i0) (tm + 4) i1) (tm + 8) i2) (tm + 12) i3) (tm + 16) i4) p := by
  intro p hp
  rw [sgN_at hp (by omega), fdM_at]
  have a0 : A9 0 = i0 := by rw [hA]; rfl
  have a1 : A9 1 = i1 := by rw [hA]; rfl
  have a2 : A9 2 = i2 := by rw [hA]; rfl
  have a3 : A9 3 = i3 := by rw [hA]; rfl
  have a4 : A9 4 = i4 := by rw [hA]; rfl
  have key : ∀ (c d : Nat), d < 4 → p = tm + 4 * c + d → (A9 ((p - tm) / 4) >>> ((24 - 8 * nI ((p - tm) % 4)) &&& 31)) &&& 255 = byF (A9 c) (24 - 8 * nI d) &&& 255 := by
    intro c d hd e
    rw [by_255, show (p - tm) / 4 = c by omega, show (p - tm) % 4 = d by omega]
  by_cases c : p < tm
  · rw [if_neg (by omega), apF_at, if_neg (by omega), apF_at, if_neg (by omega), apF_at, if_neg (by omega), apF_at, if_neg (by omega), apF_at, if_neg (by omega), htp p c, sgN_at c (by omega)]
  · rw [if_pos (by omega)]
    by_cases c0 : p < tm + 4
    · rw [key 0 (p - tm) (by omega) (by omega), a0, apF_at, if_neg (by omega), apF_at, if_neg (by omega), apF_at, if_neg (by omega), apF_at, if_neg (by omega), apF_at, if_pos (by omega)]
    · by_cases c1 : p < tm + 8
      · rw [key 1 (p - (tm + 4)) (by omega) (by omega), a1, apF_at, if_neg (by omega), apF_at, if_neg (by omega), apF_at, if_neg (by omega), apF_at, if_pos (by omega)]
      · by_cases c2 : p < tm + 12
        · rw [key 2 (p - (tm + 8)) (by omega) (by omega), a2, apF_at, if_neg (by omega), apF_at, if_neg (by omega), apF_at, if_pos (by omega)]
        · by_cases c3 : p < tm + 16
          · rw [key 3 (p - (tm + 12)) (by omega) (by omega), a3, apF_at, if_neg (by omega), apF_at, if_pos (by omega)]
          · rw [key 4 (p - (tm + 16)) (by omega) (by omega), a4, apF_at, if_pos (by omega)]
theorem sgN_less {m n p : Nat} {tb : Nat → Int32} (hp : p < n) (hn : n ≤ m) (hm : m ≤ 2000) : sgN m tb p = sgN n tb p := by
  rw [sgN_at (by omega) hm, sgN_at hp (by omega)]
theorem duG_cong {f g : Nat → Int32} : ∀ {n : Nat}, (∀ k, f k = g k) → duG f n = duG g n := by
  intro n h
  rw [show f = g from funext h]
theorem lsI_ls {N : Nat} {P H F T : Nat → Int32} (hN : N ≤ 12) (hP : Pok N P) (hF : FTok N F T) : amx (lsM N P H F T) N = amx (lsI N (dkG N P H F T)) N := amx_cong (fun i hi => by rw [lsI, stAt_nI hi hN, ls_eq hP hF hi])
theorem csI_ct {N : Nat} {P H F T : Nat → Int32} (hN : N ≤ 12) (hP : Pok N P) (hF : FTok N F T) : amx (ctM N P H F T) N = amx (csI N (csG N P H F T)) N := amx_cong (fun i hi => by rw [csI, stAt_nI hi hN, ct_eq hP hF hi])
theorem fcV_al {N : Nat} {P H F T : Nat → Int32} (hP : Pok N P) (hF : FTok N F T) : laG N P H F T = alM N P H F T := (al_eq hP hF).symm
theorem dg6n {a b c d e f : Int32} {A9 : Nat → Int32} (h : A9 = upd (upd (upd (upd (upd (upd (fun _ => 0) 0 a) 1 b) 2 c) 3 d) 4 e) 5 f) : dgF A9 1013 6 = dgA (dgA (dgA (dgA (dgA (dgA 1013 a) b) c) d) e) f := by
  subst h; rfl

