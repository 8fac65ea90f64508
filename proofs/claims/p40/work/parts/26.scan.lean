/-- what stands behind a token is in the tape, or -1 -/
theorem tkN_rng {m : Nat} {tb : Nat → Int32} {c s : Nat} (hs : s ≤ 2000) : tkN m tb c s = -1 ∨ ∃ q : Nat, q ≤ 2000 ∧ tkN m tb c s = nI q := by
  unfold tkN
  by_cases h1 : sgN m tb s = -1
  · exact Or.inl (if_pos h1)
  rw [if_neg h1]
  have hs1 : s < 2000 := sg_lt hs h1
  by_cases h2 : c = 400
  · exact Or.inl (if_pos h2)
  rw [if_neg h2]
  by_cases h3 : isLet (sgN m tb s) = true
  · rw [if_pos h3, wdN]
    split
    · refine Or.inr ⟨_, ?_, rfl⟩
      have := runL_le (q := fun p => isLet (sgN m tb p) || isDig (sgN m tb p)) (s := s) (f := 2000 - s)
      simp only [wdL]; omega
    · exact Or.inl rfl
  rw [if_neg h3]
  by_cases h4 : isDig (sgN m tb s) = true
  · rw [if_pos h4, nmN]
    split
    · refine Or.inr ⟨_, ?_, rfl⟩
      have := runL_le (q := fun p => isDig (sgN m tb p)) (s := s) (f := 2000 - s)
      simp only [nmL]; omega
    · exact Or.inl rfl
  rw [if_neg h4, syN]
  split
  · rename_i h
    refine Or.inr ⟨_, ?_, rfl⟩
    have := sg_lt (s := s + 1) (m := m) (tb := tb) (by omega) (by rw [h.1]; decide)
    omega
  split
  · rename_i h
    refine Or.inr ⟨_, ?_, rfl⟩
    have := sg_lt (s := s + 1) (m := m) (tb := tb) (by omega) (by rw [h.1]; decide)
    omega
  split
  · exact Or.inl rfl
  · exact Or.inr ⟨_, by omega, rfl⟩
theorem tkN_400 {m : Nat} {tb : Nat → Int32} {s : Nat} : tkN m tb 400 s = -1 := by simp [tkN]
theorem kwO_lt {v : Int64} {i : Nat} (h : kwO v = some i) : i < 43 := (fstN_spec h).1
theorem tkK_lt (m : Nat) (tb : Nat → Int32) (c s : Nat) : tkK m tb c s < 43 := by
  unfold tkK
  split
  · decide
  split
  · decide
  split
  · unfold wdK
    split
    · cases e : kwO (wVal m tb s (wdL m tb s)) with
      | none => decide
      | some i => exact kwO_lt e
    · decide
  split
  · unfold nmK
    split <;> decide
  · unfold syK
    split
    · decide
    split
    · decide
    · exact symK_lt _
/-- the places ahead of the tokens -/
def pN (m : Nat) (tb : Nat → Int32) : Nat → Nat
  | 0 => 0
  | i + 1 => (tkN m tb i (pN m tb i + blL m tb (pN m tb i))).toNatClampNeg
def stN (m : Nat) (tb : Nat → Int32) (i : Nat) : Nat := pN m tb i + blL m tb (pN m tb i)
def plI (m : Nat) (tb : Nat → Int32) : Nat → Int32
  | 0 => 0
  | i + 1 => tkN m tb i (stN m tb i)
def tL (m : Nat) (tb : Nat → Int32) : Nat := (fstN (fun j => tkN m tb j (stN m tb j) == -1) 401).getD 400
theorem tL_spec (m : Nat) (tb : Nat → Int32) : tL m tb ≤ 400 ∧ tkN m tb (tL m tb) (stN m tb (tL m tb)) = -1 ∧ ∀ j, j < tL m tb → ¬ tkN m tb j (stN m tb j) = -1 := by
  cases e : fstN (fun j => tkN m tb j (stN m tb j) == -1) 401 with
  | none =>
    have := fstN_no e (j := 400) (by omega)
    rw [tkN_400] at this
    simp at this
  | some i =>
    obtain ⟨h1, h2, h3⟩ := fstN_spec e
    have e2 : tL m tb = i := by rw [tL, e]; rfl
    rw [e2]
    refine ⟨by omega, by simpa using h2, fun j hj q => ?_⟩
    have := h3 j hj
    simp [q] at this
theorem bl_le {m : Nat} {tb : Nat → Int32} {s : Nat} (hs : s ≤ 2000) : s + blL m tb s ≤ 2000 := by
  have := runL_le (q := fun p => isBl (sgN m tb p)) (s := s) (f := 2000 - s)
  simp only [blL]
  omega
theorem pN_le (m : Nat) (tb : Nat → Int32) : ∀ i, pN m tb i ≤ 2000
  | 0 => Nat.zero_le _
  | i + 1 => by
    rw [pN]
    rcases tkN_rng (m := m) (tb := tb) (c := i) (bl_le (m := m) (tb := tb) (pN_le m tb i)) with h | ⟨q, h1, h2⟩
    · rw [h]; decide
    · rw [h2, nI_clamp (by omega)]; exact h1
theorem plI_eq {m : Nat} {tb : Nat → Int32} : ∀ {i : Nat}, i ≤ tL m tb → plI m tb i = nI (pN m tb i)
  | 0, _ => rfl
  | i + 1, h => by
    rw [plI, pN]
    rcases tkN_rng (m := m) (tb := tb) (c := i) (bl_le (m := m) (tb := tb) (pN_le m tb i)) with e | ⟨q, h1, h2⟩
    · exact absurd e ((tL_spec m tb).2.2 i (by omega))
    · show tkN m tb i (pN m tb i + blL m tb (pN m tb i)) = _
      rw [h2, nI_clamp (by omega)]
theorem plI_ne {m : Nat} {tb : Nat → Int32} {i : Nat} (h : i ≤ tL m tb) : ¬ plI m tb i = -1 := by
  rw [plI_eq h]
  intro e
  have h1 := congrArg Int32.toInt e
  rw [nI_toInt (by have := pN_le m tb i; omega)] at h1
  have h2 : (-1 : Int32).toInt = -1 := by decide
  omega
def kfF (Z : GZ) (m : Nat) (tb : Nat → Int32) (kf : Nat → Option Nat) : Nat → Nat → Option Nat
  | 0 => kf
  | k + 1 => va_up (kfF Z m tb kf k) k (some (zad Z (tkK m tb k (stN m tb k))))
def sfF (m : Nat) (tb : Nat → Int32) (sf : Nat → Int32) : Nat → Nat → Int32
  | 0 => sf
  | k + 1 => upd (sfF m tb sf k) k (nI (stN m tb k))
def vfF (m : Nat) (tb : Nat → Int32) (vf : Nat → Int64) : Nat → Nat → Int64
  | 0 => vf
  | k + 1 => vp_updL (vfF m tb vf k) k (tkV m tb k (stN m tb k))
theorem kfF_at {Z : GZ} {m : Nat} {tb : Nat → Int32} {kf : Nat → Option Nat} {i : Nat} : ∀ {k : Nat}, i < k → kfF Z m tb kf k i = some (zad Z (tkK m tb i (stN m tb i)))
  | 0, h => absurd h (Nat.not_lt_zero _)
  | k + 1, h => by
    by_cases e : i = k
    · subst e; simp [kfF, va_up]
    · have := kfF_at (Z := Z) (m := m) (tb := tb) (kf := kf) (i := i) (k := k) (by omega)
      simpa [kfF, va_up, e] using this
theorem sfF_at {m : Nat} {tb : Nat → Int32} {sf : Nat → Int32} {i : Nat} : ∀ {k : Nat}, i < k → sfF m tb sf k i = nI (stN m tb i)
  | 0, h => absurd h (Nat.not_lt_zero _)
  | k + 1, h => by
    by_cases e : i = k
    · subst e; simp [sfF, upd]
    · have := sfF_at (m := m) (tb := tb) (sf := sf) (i := i) (k := k) (by omega)
      simpa [sfF, upd, e] using this
theorem vfF_at {m : Nat} {tb : Nat → Int32} {vf : Nat → Int64} {i : Nat} : ∀ {k : Nat}, i < k → vfF m tb vf k i = tkV m tb i (stN m tb i)
  | 0, h => absurd h (Nat.not_lt_zero _)
  | k + 1, h => by
    by_cases e : i = k
    · subst e; simp [vfF, vp_updL]
    · have := vfF_at (m := m) (tb := tb) (vf := vf) (i := i) (k := k) (by omega)
      simpa [vfF, vp_updL, e] using this
set_option maxRecDepth 100000 in
set_option maxHeartbeats 4000000 in
theorem c_X7_scan {Z : GZ} {l : Launch} {kk t : Nat → Nat} {m : Nat} {ct : Int32} {tb : Nat → Int32} {kf : Nat → Option Nat} {sf : Nat → Int32} {vf : Nat → Int64}  : Ct Z l yX7_scan cX7_scan 3 none (rmK 3) [.ref (kk 0)] (wTk Z kk t ct kf sf vf ++ wTp Z t (nI m) tb) (fun v w => v = none ∧ w = (wTk Z kk t (nI (tL m tb + 1)) (kfF Z m tb kf (tL m tb + 1)) (sfF m tb sf (tL m tb + 1)) (vfF m tb vf (tL m tb + 1)) ++ wTp Z t (nI m) tb)) := by
  refine Ct.ofJ (own := RX7) (nm := "scan") (lv0 := [(0, .ref (kk 0))]) (by decide) rfl rfl (Nat.le_of_ble_eq_true rfl) rfl (fun X hXl C E => ?_)
  subst hXl
  refine J_aload_n C iX7_scan_0 rfl rfl ?_
  refine J_iconst 0 C iX7_scan_1 rfl ?_
  refine J_put (wTk Z kk t 0 kf sf vf ++ wTp Z t (nI m) tb) 0 C iX7_scan_2 pf_X7_29 rfl rfl rfl (Nat.le_of_ble_eq_true rfl) rfl ?_
  refine J_iconst 0 C iX7_scan_5 rfl ?_
  refine J_istore_n [(1, .int 0), (0, .ref (kk 0))] C iX7_scan_6 rfl (by decide) rfl ?_
  refine J_iconst 0 C iX7_scan_7 rfl ?_
  refine J_istore_n [(2, .int 0), (1, .int 0), (0, .ref (kk 0))] C iX7_scan_8 rfl (by decide) rfl ?_
  refine J_lvm [(2, .int 0), (1, .int (plI m tb 0)), (0, .ref (kk 0))] rfl ?_
  refine J_ws (wTk Z kk t 0 (kfF Z m tb kf 0) (sfF m tb sf 0) (vfF m tb vf 0) ++ wTp Z t (nI m) tb) rfl ?_
  refine J_for (fun k => [(2, .int (nI k)), (1, .int (plI m tb k)), (0, .ref (kk 0))]) (fun k => (wTk Z kk t (nI k) (kfF Z m tb kf k) (sfF m tb sf k) (vfF m tb vf k) ++ wTp Z t (nI m) tb)) (tL m tb + 1) 0 (by omega) ?_ (fun k hk0 hk ih => ?_)
  · have hL := (tL_spec m tb).1
    by_cases hs : tL m tb = 400
    · refine J_iload_n C iX7_scan_9 rfl rfl ?_
      refine J_sipush 400 C iX7_scan_10 rfl ?_
      refine J_icmpgt 37 C iX7_scan_13 rfl (fun h13 => ?_) (fun h13 => absurd (by rw [hs]; decide) h13)
      exact J_vret C E iX7_scan_37 ⟨rfl, rfl⟩
    · refine J_iload_n C iX7_scan_9 rfl rfl ?_
      refine J_sipush 400 C iX7_scan_10 rfl ?_
      refine J_icmpgt 37 C iX7_scan_13 rfl (fun h13 => absurd h13 (nI_nlt (a := 400) (b := tL m tb + 1) (by omega) (by decide))) (fun h13 => ?_)
      refine J_iload_n C iX7_scan_16 rfl rfl ?_
      refine J_iconst (-1) C iX7_scan_17 rfl ?_
      refine J_icmpeq 37 C iX7_scan_18 rfl (fun h18 => ?_) (fun h18 => absurd (tL_spec m tb).2.1 h18)
      exact J_vret C E iX7_scan_37 ⟨rfl, rfl⟩
  · have hL := (tL_spec m tb).1
    refine J_iload_n C iX7_scan_9 rfl rfl ?_
    refine J_sipush 400 C iX7_scan_10 rfl ?_
    refine J_icmpgt 37 C iX7_scan_13 rfl (fun h13 => absurd h13 (nI_nlt (a := 400) (b := k) (by omega) (by decide))) (fun h13 => ?_)
    refine J_iload_n C iX7_scan_16 rfl rfl ?_
    refine J_iconst (-1) C iX7_scan_17 rfl ?_
    refine J_icmpeq 37 C iX7_scan_18 rfl (fun h18 => absurd h18 (plI_ne (by omega))) (fun h18 => ?_)
    rw [plI_eq (by omega)]
    refine J_aload_n C iX7_scan_21 rfl rfl ?_
    refine J_aload_n C iX7_scan_22 rfl rfl ?_
    refine J_iload_n C iX7_scan_23 rfl rfl ?_
    refine J_cV (As := [.int (nI (pN m tb k))]) (st := .ref (kk 0) :: []) (rc2 := (rmK 3).cells) (rs2 := (rmK 3).slots) C iX7_scan_24 lm_X7_33 yc_X7_behindBlanks yv_X7_behindBlanks (c_X7_behindBlanks (s := pN m tb k) (pN_le m tb k)) (q0 := 0) rfl rfl rfl rfl ⟨by decide, by decide⟩ (Nat.le_of_ble_eq_true rfl) rfl rfl ?_
    rintro _ _ ⟨rfl, rfl⟩
    refine J_st (.int (nI (stN m tb k)) :: .ref (kk 0) :: []) rfl ?_
    refine J_cV (As := [.int (nI (stN m tb k))]) (st := []) (rc2 := (rmK 3).cells) (rs2 := (rmK 3).slots) C iX7_scan_27 lm_X7_37 yc_X7_scanToken yv_X7_scanToken (c_X7_scanToken (c := k) (s := stN m tb k) (by omega) (bl_le (pN_le m tb k))) (q0 := 0) rfl rfl rfl rfl ⟨by decide, by decide⟩ (Nat.le_of_ble_eq_true rfl) rfl rfl ?_
    rintro _ _ ⟨rfl, rfl⟩
    refine J_st (.int (plI m tb (k + 1)) :: []) rfl ?_
    refine J_ws (wTk Z kk t (nI (k + 1)) (kfF Z m tb kf (k + 1)) (sfF m tb sf (k + 1)) (vfF m tb vf (k + 1)) ++ wTp Z t (nI m) tb) rfl ?_
    refine J_istore_n [(1, .int (plI m tb (k + 1))), (2, .int (nI k)), (0, .ref (kk 0))] C iX7_scan_30 rfl (by decide) rfl ?_
    refine J_iinc ((nI k) + 1) [(2, .int ((nI k) + 1)), (1, .int (plI m tb (k + 1))), (0, .ref (kk 0))] C iX7_scan_31 rfl rfl (by decide) rfl ?_
    rw [show (nI k) + 1 = nI (k + 1) from nI_add _ _]
    refine J_goto 9 C iX7_scan_34 rfl ?_
    refine J_lvm [(2, .int (nI (k + 1))), (1, .int (plI m tb (k + 1))), (0, .ref (kk 0))] rfl ?_
    exact ih

