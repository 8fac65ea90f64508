theorem hasB_nI {N k : Nat} (hk : k < N) (hN : N ≤ 12) : hasB (nI N) (nI k) = true := by
  have h1 := nI_pos (n := k) (by omega)
  have h2 := nI_ge (a := k) (b := N) hk (by omega)
  have h3 : ¬ (12 : Int32) ≤ nI k := nI_ge (a := k) (b := 12) (by omega) (by decide)
  simp [hasB, h1, h2, h3]
theorem hasB_of {N : Nat} {h : Int32} (hN : N ≤ 12) (e : hasB (nI N) h = true) : ∃ i : Nat, i < N ∧ h = nI i := by
  obtain ⟨i, hi, rfl⟩ := vp_in_of (hasB_in e) (by decide)
  refine ⟨i, ?_, rfl⟩
  simp only [hasB, Bool.and_eq_true, Bool.not_eq_true', decide_eq_false_iff_not] at e
  have := e.2.1
  by_cases hlt : i < N
  · exact hlt
  · exact absurd (nI_le (a := N) (b := i) (by omega) (by omega)) this
theorem hasB_not {N : Nat} {h : Int32} (hN : N ≤ 12) : hasB (nI N) h = false ↔ ∀ i : Nat, i < N → h ≠ nI i := by
  constructor
  · rintro e i hi rfl
    rw [hasB_nI hi hN] at e
    cases e
  · intro hne
    cases e : hasB (nI N) h
    · rfl
    · obtain ⟨i, hi, rfl⟩ := hasB_of hN e
      exact absurd rfl (hne i hi)
theorem stAt_nI {N k : Nat} (hk : k < N) (hN : N ≤ 12) (f : Nat → Int32) (x : Int32) : stAt (nI N) (nI k) f x = f k := by
  rw [stAt, if_pos (hasB_nI hk hN), nI_clamp (by omega)]
theorem wallF_nI {N k : Nat} (hk : k < N) (hN : N ≤ 12) (H F T : Nat → Int32) (hr : Int32) : wallF (nI N) H F T (nI k) hr = if ¬ hr < F k ∧ ¬ T k < hr then 0 else H k := by
  rw [wallF, if_neg (by rw [hasB_nI hk hN]; simp), nI_clamp (by omega)]
theorem ij_nI {i j : Nat} (hi : i < 12) (hj : j < 12) : (nI i * 12 + nI j).toNatClampNeg = i * 12 + j := by
  rw [show (12 : Int32) = nI 12 from rfl, pk_mul, nI_add, nI_clamp (by omega)]
theorem ij_in {i j : Nat} (hi : i < 12) (hj : j < 12) : vp_in (nI i * 12 + nI j) 144 := by
  rw [show (12 : Int32) = nI 12 from rfl, pk_mul, nI_add]
  exact vp_in_nI (by omega) (by decide)
theorem shF_nI {N i j : Nat} (hi : i < N) (hj : j < N) (hN : N ≤ 12) (S : Nat → Int32) : shF (nI N) S (nI i) (nI j) = S (i * 12 + j) := by
  rw [shF, if_pos ⟨hasB_nI hi hN, hasB_nI hj hN⟩, ij_nI (by omega) (by omega)]
def maxI (x y : Int32) : Int32 := if x < y then y else x
/-- the most of bitC (D 0) .. -/
def mostN (D : Nat → Int32) : Nat → Int32
  | 0 => 0
  | k + 1 => maxI (mostN D k) (bitC (D k))
/-- the hour and the shadow at the k-th step -/
def fhHour (ew : Int32) (k : Nat) : Int32 := if 0 ≤ ew then nI (12 + k) else 12 - nI k
abbrev fhYes (wb wh : Int32 → Int32) (ew : Int32) (k : Nat) : Prop := ¬ wb (fhHour ew k) * nI k / 2 < absI ew ∧ ¬ (wb (fhHour ew k) * nI k - 2 * absI ew) / nI k ≤ wh (fhHour ew k)
def fhAcc (wb wh : Int32 → Int32) (ew : Int32) : Nat → Int32
  | 0 => 0
  | k + 1 => if fhYes wb wh ew (k + 1) then fhAcc wb wh ew k ||| (1 <<< (fhHour ew (k + 1) &&& 31)) else fhAcc wb wh ew k
def fhF (n : Int32) (P H F T : Nat → Int32) (h b : Int32) : Int32 := if stAt n h P (-1) - stAt n b P (-1) = 0 then 0 else fhAcc (wallF n H F T b) (wallF n H F T h) (stAt n h P (-1) - stAt n b P (-1)) 6
def darkF (N : Nat) (S : Nat → Int32) (i : Nat) : Int32 := orN (fun o => S (i * 12 + o)) N
def castF (N : Nat) (S : Nat → Int32) (i : Nat) : Int32 := sumN (fun o => bitC (S (o * 12 + i))) N
def lostF (N : Nat) (S : Nat → Int32) (k : Nat) : Int32 := sumN (fun i => bitC (darkF N S i)) k
def gF (N : Nat) (P H F T : Nat → Int32) (i j : Nat) : Int32 := fhF (nI N) P H F T (nI i) (nI j)
def renS (g : Nat → Nat → Int32) (h : Nat) (S : Nat → Int32) : Nat → Nat → Int32
  | 0 => S
  | k + 1 => upd (upd (renS g h S k) (h * 12 + k) (g h k)) (k * 12 + h) (g k h)
set_option maxRecDepth 100000 in
set_option maxHeartbeats 4000000 in
theorem c_X5_mostLost {Z : GZ} {l : Launch} {a : Nat → Nat} {N : Nat} {dg co li : Int32} {pP pH pF pT pS pD pC : Nat → Int32} (hN : N ≤ 12)  : Ct Z l yX5_mostLost cX5_mostLost 3 (some .int) (rmK 1) [.ref (a 0)] (wSt Z a (nI N) dg co li pP pH pF pT pS pD pC) (fun v w => v = some (.int (mostN pD N)) ∧ w = (wSt Z a (nI N) dg co li pP pH pF pT pS pD pC)) := by
  refine Ct.ofJ (own := RX5) (nm := "mostLost") (lv0 := [(0, .ref (a 0))]) (by decide) rfl rfl (Nat.le_of_ble_eq_true rfl) rfl (fun X hXl C E => ?_)
  subst hXl
  refine J_iconst 0 C iX5_mostLost_0 rfl ?_
  refine J_istore_n [(1, .int 0), (0, .ref (a 0))] C iX5_mostLost_1 rfl (by decide) rfl ?_
  refine J_iconst 0 C iX5_mostLost_2 rfl ?_
  refine J_istore_n [(2, .int 0), (1, .int 0), (0, .ref (a 0))] C iX5_mostLost_3 rfl (by decide) rfl ?_
  refine J_lvm [(2, .int (nI 0)), (1, .int (mostN pD 0)), (0, .ref (a 0))] rfl ?_
  refine J_for (fun k => [(2, .int (nI k)), (1, .int (mostN pD k)), (0, .ref (a 0))]) (fun k => (wSt Z a (nI N) dg co li pP pH pF pT pS pD pC)) N 0 (by omega) ?_ (fun k hk0 hk ih => ?_)
  · refine J_iload_n C iX5_mostLost_4 rfl rfl ?_
    refine J_aload_n C iX5_mostLost_5 rfl rfl ?_
    refine J_get (.int (nI N)) 0 C iX5_mostLost_6 gf_X5_43 rfl rfl ?_
    refine J_icmpge 38 C iX5_mostLost_9 rfl (fun h9 => ?_) (fun h9 => absurd (Int32.le_refl _) h9)
    refine J_iload_n C iX5_mostLost_38 rfl rfl ?_
    exact J_iret C E iX5_mostLost_39 ⟨rfl, rfl⟩
  · refine J_iload_n C iX5_mostLost_4 rfl rfl ?_
    refine J_aload_n C iX5_mostLost_5 rfl rfl ?_
    refine J_get (.int (nI N)) 0 C iX5_mostLost_6 gf_X5_43 rfl rfl ?_
    refine J_icmpge 38 C iX5_mostLost_9 rfl (fun h9 => absurd h9 (nI_ge hk (by omega))) (fun h9 => ?_)
    refine J_iload_n C iX5_mostLost_12 rfl rfl ?_
    refine J_bipush 12 C iX5_mostLost_13 rfl ?_
    refine J_icmpge 38 C iX5_mostLost_15 rfl (fun h15 => absurd h15 (nI_ge (b := 12) (by omega) (by decide))) (fun h15 => ?_)
    refine J_iload_n C iX5_mostLost_18 rfl rfl ?_
    refine J_aload_n C iX5_mostLost_19 rfl rfl ?_
    refine J_get (.ref (a 6)) 0 C iX5_mostLost_20 gf_X5_27 rfl rfl ?_
    refine J_iload_n C iX5_mostLost_23 rfl rfl ?_
    refine J_iald 6 C iX5_mostLost_24 rfl (vp_in_nI (n := k) (by omega) (by decide)) ?_
    rw [nI_clamp (n := k) (by omega)]
    refine J_cSp (As := [.int (pD k)]) (st := .int (mostN pD k) :: []) C iX5_mostLost_25 lm_X5_86 yc_J6_bitCount_0f7a4 ys_J6_bitCount_0f7a4 c_J6_bitCount_0f7a4 rfl ⟨by decide, by decide⟩ (Nat.le_of_ble_eq_true rfl) ⟨rfl, rfl⟩ ?_
    rintro _ rfl
    refine J_st (.int (bitC (pD k)) :: .int (mostN pD k) :: []) rfl ?_
    refine J_imax C iX5_mostLost_28 (tsg_in (i := 648) (by decide +kernel) rfl) ma_imax_1 ma_i ma_imax_2 (Nat.le_of_ble_eq_true rfl) (Nat.le_of_ble_eq_true rfl) ?_
    refine J_istore_n [(1, .int (if mostN pD k < bitC (pD k) then bitC (pD k) else mostN pD k)), (2, .int (nI k)), (0, .ref (a 0))] C iX5_mostLost_31 rfl (by decide) rfl ?_
    refine J_iinc ((nI k) + 1) [(2, .int ((nI k) + 1)), (1, .int (if mostN pD k < bitC (pD k) then bitC (pD k) else mostN pD k)), (0, .ref (a 0))] C iX5_mostLost_32 rfl rfl (by decide) rfl ?_
    rw [show (nI k) + 1 = nI (k + 1) from nI_add _ _]
    refine J_goto 4 C iX5_mostLost_35 rfl ?_
    refine J_lvm [(2, .int (nI (k + 1))), (1, .int (if mostN pD k < bitC (pD k) then bitC (pD k) else mostN pD k)), (0, .ref (a 0))] rfl ?_
    exact ih

set_option maxRecDepth 100000 in
set_option maxHeartbeats 4000000 in
theorem c_X5_findHoursShaded {Z : GZ} {l : Launch} {a : Nat → Nat} {n dg co li : Int32} {pP pH pF pT pS pD pC : Nat → Int32} {h b : Int32}  : Ct Z l yX5_findHoursShaded cX5_findHoursShaded 9 (some .int) (rmK 2) [.ref (a 0), .int h, .int b] (wSt Z a n dg co li pP pH pF pT pS pD pC) (fun v w => v = some (.int (fhF n pP pH pF pT h b)) ∧ w = (wSt Z a n dg co li pP pH pF pT pS pD pC)) := by
  refine Ct.ofJ (own := RX5) (nm := "findHoursShaded") (lv0 := [(0, .ref (a 0)), (1, .int h), (2, .int b)]) (by decide) rfl rfl (Nat.le_of_ble_eq_true rfl) rfl (fun X hXl C E => ?_)
  subst hXl
  refine J_aload_n C iX5_findHoursShaded_0 rfl rfl ?_
  refine J_iload_n C iX5_findHoursShaded_1 rfl rfl ?_
  refine J_cV (As := [.int h]) (st := []) (rc2 := (rmK 2).cells) (rs2 := (rmK 2).slots) C iX5_findHoursShaded_2 lm_X5_98 yc_X5_place yv_X5_place c_X5_place (q0 := 0) rfl rfl rfl rfl ⟨by decide, by decide⟩ (Nat.le_of_ble_eq_true rfl) rfl rfl ?_
  rintro _ _ ⟨rfl, rfl⟩
  refine J_st (.int (stAt n h pP (-1)) :: []) rfl ?_
  refine J_aload_n C iX5_findHoursShaded_5 rfl rfl ?_
  refine J_iload_n C iX5_findHoursShaded_6 rfl rfl ?_
  refine J_cV (As := [.int b]) (st := .int (stAt n h pP (-1)) :: []) (rc2 := (rmK 2).cells) (rs2 := (rmK 2).slots) C iX5_findHoursShaded_7 lm_X5_98 yc_X5_place yv_X5_place c_X5_place (q0 := 0) rfl rfl rfl rfl ⟨by decide, by decide⟩ (Nat.le_of_ble_eq_true rfl) rfl rfl ?_
  rintro _ _ ⟨rfl, rfl⟩
  refine J_st (.int (stAt n b pP (-1)) :: .int (stAt n h pP (-1)) :: []) rfl ?_
  refine J_isub C iX5_findHoursShaded_10 ?_
  refine J_istore_n [(3, .int ((stAt n h pP (-1)) - (stAt n b pP (-1)))), (0, .ref (a 0)), (1, .int h), (2, .int b)] C iX5_findHoursShaded_11 rfl (by decide) rfl ?_
  refine J_iload_n C iX5_findHoursShaded_12 rfl rfl ?_
  refine J_abs C iX5_findHoursShaded_13 (tsg_in (i := 533) (by decide +kernel) rfl) ma_abs_1 ma_i ma_abs_2 (Nat.le_of_ble_eq_true rfl) (Nat.le_of_ble_eq_true rfl) ?_
  refine J_istore [(4, .int (if 0 ≤ (stAt n h pP (-1)) - (stAt n b pP (-1)) then (stAt n h pP (-1)) - (stAt n b pP (-1)) else 0 - ((stAt n h pP (-1)) - (stAt n b pP (-1))))), (3, .int ((stAt n h pP (-1)) - (stAt n b pP (-1)))), (0, .ref (a 0)), (1, .int h), (2, .int b)] C iX5_findHoursShaded_16 (by decide) rfl ?_
  refine J_iconst 0 C iX5_findHoursShaded_18 rfl ?_
  refine J_istore [(5, .int 0), (4, .int (if 0 ≤ (stAt n h pP (-1)) - (stAt n b pP (-1)) then (stAt n h pP (-1)) - (stAt n b pP (-1)) else 0 - ((stAt n h pP (-1)) - (stAt n b pP (-1))))), (3, .int ((stAt n h pP (-1)) - (stAt n b pP (-1)))), (0, .ref (a 0)), (1, .int h), (2, .int b)] C iX5_findHoursShaded_19 (by decide) rfl ?_
  refine J_iconst 1 C iX5_findHoursShaded_21 rfl ?_
  refine J_istore [(6, .int 1), (5, .int 0), (4, .int (if 0 ≤ (stAt n h pP (-1)) - (stAt n b pP (-1)) then (stAt n h pP (-1)) - (stAt n b pP (-1)) else 0 - ((stAt n h pP (-1)) - (stAt n b pP (-1))))), (3, .int ((stAt n h pP (-1)) - (stAt n b pP (-1)))), (0, .ref (a 0)), (1, .int h), (2, .int b)] C iX5_findHoursShaded_22 (by decide) rfl ?_
  refine J_lvm [(6, .int (nI (0 + 1))), (5, .int (fhAcc (wallF n pH pF pT b) (wallF n pH pF pT h) (stAt n h pP (-1) - stAt n b pP (-1)) 0)), (4, .int (absI (stAt n h pP (-1) - stAt n b pP (-1)))), (3, .int (stAt n h pP (-1) - stAt n b pP (-1))), (2, .int b), (1, .int h), (0, .ref (a 0))] rfl ?_
  by_cases he : stAt n h pP (-1) - stAt n b pP (-1) = 0
  · refine J_iload_n C iX5_findHoursShaded_24 rfl rfl ?_
    refine J_ifeq 110 C iX5_findHoursShaded_25 rfl (fun h25 => ?_) (fun h25 => absurd he h25)
    refine J_iload C iX5_findHoursShaded_110 rfl ?_
    exact J_iret C E iX5_findHoursShaded_112 ⟨by rw [fhF, if_pos he]; rfl, rfl⟩
  · refine J_lvm [(6, .int (nI (0 + 1))), (5, .int (fhAcc (wallF n pH pF pT b) (wallF n pH pF pT h) (stAt n h pP (-1) - stAt n b pP (-1)) 0)), (4, .int (absI (stAt n h pP (-1) - stAt n b pP (-1)))), (3, .int (stAt n h pP (-1) - stAt n b pP (-1))), (2, .int b), (1, .int h), (0, .ref (a 0))] rfl ?_
    refine J_for (fun k => [(6, .int (nI (k + 1))), (5, .int (fhAcc (wallF n pH pF pT b) (wallF n pH pF pT h) (stAt n h pP (-1) - stAt n b pP (-1)) k)), (4, .int (absI (stAt n h pP (-1) - stAt n b pP (-1)))), (3, .int (stAt n h pP (-1) - stAt n b pP (-1))), (2, .int b), (1, .int h), (0, .ref (a 0))]) (fun k => (wSt Z a n dg co li pP pH pF pT pS pD pC)) 6 0 (by omega) ?_ (fun k hk0 hk ih => ?_)
    · refine J_iload_n C iX5_findHoursShaded_24 rfl rfl ?_
      refine J_ifeq 110 C iX5_findHoursShaded_25 rfl (fun h25 => absurd h25 he) (fun h25 => ?_)
      refine J_iload C iX5_findHoursShaded_28 rfl ?_
      refine J_bipush 6 C iX5_findHoursShaded_30 rfl ?_
      refine J_icmpgt 110 C iX5_findHoursShaded_32 rfl (fun h32 => ?_) (fun h32 => absurd (by decide) h32)
      refine J_iload C iX5_findHoursShaded_110 rfl ?_
      exact J_iret C E iX5_findHoursShaded_112 ⟨by rw [fhF, if_neg he], rfl⟩
    · refine J_iload_n C iX5_findHoursShaded_24 rfl rfl ?_
      refine J_ifeq 110 C iX5_findHoursShaded_25 rfl (fun h25 => absurd h25 he) (fun h25 => ?_)
      refine J_iload C iX5_findHoursShaded_28 rfl ?_
      refine J_bipush 6 C iX5_findHoursShaded_30 rfl ?_
      refine J_icmpgt 110 C iX5_findHoursShaded_32 rfl (fun h32 => absurd h32 (nI_nlt (a := 6) (b := k + 1) (by omega) (by decide))) (fun h32 => ?_)
      refine J_iload_n C iX5_findHoursShaded_35 rfl rfl ?_
      refine J_ifge 47 C iX5_findHoursShaded_36 rfl (fun h36 => ?_) (fun h36 => ?_)
      · refine J_bipush 12 C iX5_findHoursShaded_47 rfl ?_
        refine J_iload C iX5_findHoursShaded_49 rfl ?_
        refine J_iadd C iX5_findHoursShaded_51 ?_
        rw [show 12 + (nI (k + 1)) = nI (12 + (k + 1)) from nI_add _ _]
        refine J_istore [(7, .int (nI (12 + (k + 1)))), (6, .int (nI (k + 1))), (5, .int (fhAcc (wallF n pH pF pT b) (wallF n pH pF pT h) (stAt n h pP (-1) - stAt n b pP (-1)) k)), (4, .int (absI (stAt n h pP (-1) - stAt n b pP (-1)))), (3, .int (stAt n h pP (-1) - stAt n b pP (-1))), (2, .int b), (1, .int h), (0, .ref (a 0))] C iX5_findHoursShaded_52 (by decide) rfl ?_
        refine J_aload_n C iX5_findHoursShaded_54 rfl rfl ?_
        refine J_iload_n C iX5_findHoursShaded_55 rfl rfl ?_
        refine J_iload C iX5_findHoursShaded_56 rfl ?_
        refine J_cV (As := [.int b, .int (nI (12 + (k + 1)))]) (st := []) (rc2 := (rmK 2).cells) (rs2 := (rmK 2).slots) C iX5_findHoursShaded_58 lm_X5_80 yc_X5_wallAt yv_X5_wallAt c_X5_wallAt (q0 := 0) rfl rfl rfl rfl ⟨by decide, by decide⟩ (Nat.le_of_ble_eq_true rfl) rfl rfl ?_
        rintro _ _ ⟨rfl, rfl⟩
        refine J_st (.int (wallF n pH pF pT b (nI (12 + (k + 1)))) :: []) rfl ?_
        refine J_iload C iX5_findHoursShaded_61 rfl ?_
        refine J_imul C iX5_findHoursShaded_63 ?_
        refine J_istore [(8, .int ((wallF n pH pF pT b (nI (12 + (k + 1)))) * (nI (k + 1)))), (7, .int (nI (12 + (k + 1)))), (6, .int (nI (k + 1))), (5, .int (fhAcc (wallF n pH pF pT b) (wallF n pH pF pT h) (stAt n h pP (-1) - stAt n b pP (-1)) k)), (4, .int (absI (stAt n h pP (-1) - stAt n b pP (-1)))), (3, .int (stAt n h pP (-1) - stAt n b pP (-1))), (2, .int b), (1, .int h), (0, .ref (a 0))] C iX5_findHoursShaded_64 (by decide) rfl ?_
        refine J_iload C iX5_findHoursShaded_66 rfl ?_
        refine J_iload C iX5_findHoursShaded_68 rfl ?_
        refine J_iconst 2 C iX5_findHoursShaded_70 rfl ?_
        refine J_idiv C iX5_findHoursShaded_71 (by decide) ?_
        refine J_icmpgt 104 C iX5_findHoursShaded_72 rfl (fun h72 => ?_) (fun h72 => ?_)
        · refine J_iinc ((nI (k + 1)) + 1) [(6, .int ((nI (k + 1)) + 1)), (8, .int ((wallF n pH pF pT b (nI (12 + (k + 1)))) * (nI (k + 1)))), (7, .int (nI (12 + (k + 1)))), (5, .int (fhAcc (wallF n pH pF pT b) (wallF n pH pF pT h) (stAt n h pP (-1) - stAt n b pP (-1)) k)), (4, .int (absI (stAt n h pP (-1) - stAt n b pP (-1)))), (3, .int (stAt n h pP (-1) - stAt n b pP (-1))), (2, .int b), (1, .int h), (0, .ref (a 0))] C iX5_findHoursShaded_104 rfl rfl (by decide) rfl ?_
          rw [show (nI (k + 1)) + 1 = nI ((k + 1) + 1) from nI_add _ _]
          refine J_goto 24 C iX5_findHoursShaded_107 rfl ?_
          refine J_lvm [(6, .int (nI ((k + 1) + 1))), (5, .int (fhAcc (wallF n pH pF pT b) (wallF n pH pF pT h) (stAt n h pP (-1) - stAt n b pP (-1)) k)), (4, .int (absI (stAt n h pP (-1) - stAt n b pP (-1)))), (3, .int (stAt n h pP (-1) - stAt n b pP (-1))), (2, .int b), (1, .int h), (0, .ref (a 0))] rfl ?_
          rw [fhAcc, if_neg (by simp only [fhYes, fhHour, if_pos h36]; exact (fun q => q.1 h72))] at ih
          exact ih
        · refine J_iload C iX5_findHoursShaded_75 rfl ?_
          refine J_iconst 2 C iX5_findHoursShaded_77 rfl ?_
          refine J_iload C iX5_findHoursShaded_78 rfl ?_
          refine J_imul C iX5_findHoursShaded_80 ?_
          refine J_isub C iX5_findHoursShaded_81 ?_
          refine J_iload C iX5_findHoursShaded_82 rfl ?_
          refine J_idiv C iX5_findHoursShaded_84 (nI_ne0 (by omega) (by omega)) ?_
          refine J_aload_n C iX5_findHoursShaded_85 rfl rfl ?_
          refine J_iload_n C iX5_findHoursShaded_86 rfl rfl ?_
          refine J_iload C iX5_findHoursShaded_87 rfl ?_
          refine J_cV (As := [.int h, .int (nI (12 + (k + 1)))]) (st := .int ((((wallF n pH pF pT b (nI (12 + (k + 1)))) * (nI (k + 1))) - (2 * (absI (stAt n h pP (-1) - stAt n b pP (-1))))) / (nI (k + 1))) :: []) (rc2 := (rmK 2).cells) (rs2 := (rmK 2).slots) C iX5_findHoursShaded_89 lm_X5_80 yc_X5_wallAt yv_X5_wallAt c_X5_wallAt (q0 := 0) rfl rfl rfl rfl ⟨by decide, by decide⟩ (Nat.le_of_ble_eq_true rfl) rfl rfl ?_
          rintro _ _ ⟨rfl, rfl⟩
          refine J_st (.int (wallF n pH pF pT h (nI (12 + (k + 1)))) :: .int ((((wallF n pH pF pT b (nI (12 + (k + 1)))) * (nI (k + 1))) - (2 * (absI (stAt n h pP (-1) - stAt n b pP (-1))))) / (nI (k + 1))) :: []) rfl ?_
          refine J_icmple 104 C iX5_findHoursShaded_92 rfl (fun h92 => ?_) (fun h92 => ?_)
          · refine J_iinc ((nI (k + 1)) + 1) [(6, .int ((nI (k + 1)) + 1)), (8, .int ((wallF n pH pF pT b (nI (12 + (k + 1)))) * (nI (k + 1)))), (7, .int (nI (12 + (k + 1)))), (5, .int (fhAcc (wallF n pH pF pT b) (wallF n pH pF pT h) (stAt n h pP (-1) - stAt n b pP (-1)) k)), (4, .int (absI (stAt n h pP (-1) - stAt n b pP (-1)))), (3, .int (stAt n h pP (-1) - stAt n b pP (-1))), (2, .int b), (1, .int h), (0, .ref (a 0))] C iX5_findHoursShaded_104 rfl rfl (by decide) rfl ?_
            rw [show (nI (k + 1)) + 1 = nI ((k + 1) + 1) from nI_add _ _]
            refine J_goto 24 C iX5_findHoursShaded_107 rfl ?_
            refine J_lvm [(6, .int (nI ((k + 1) + 1))), (5, .int (fhAcc (wallF n pH pF pT b) (wallF n pH pF pT h) (stAt n h pP (-1) - stAt n b pP (-1)) k)), (4, .int (absI (stAt n h pP (-1) - stAt n b pP (-1)))), (3, .int (stAt n h pP (-1) - stAt n b pP (-1))), (2, .int b), (1, .int h), (0, .ref (a 0))] rfl ?_
            rw [fhAcc, if_neg (by simp only [fhYes, fhHour, if_pos h36]; exact (fun q => q.2 h92))] at ih
            exact ih
          · refine J_iload C iX5_findHoursShaded_95 rfl ?_
            refine J_iconst 1 C iX5_findHoursShaded_97 rfl ?_
            refine J_iload C iX5_findHoursShaded_98 rfl ?_
            refine J_ishl C iX5_findHoursShaded_100 ?_
            refine J_ior C iX5_findHoursShaded_101 ?_
            refine J_istore [(5, .int ((fhAcc (wallF n pH pF pT b) (wallF n pH pF pT h) (stAt n h pP (-1) - stAt n b pP (-1)) k) ||| (1 <<< ((nI (12 + (k + 1))) &&& 31)))), (8, .int ((wallF n pH pF pT b (nI (12 + (k + 1)))) * (nI (k + 1)))), (7, .int (nI (12 + (k + 1)))), (6, .int (nI (k + 1))), (4, .int (absI (stAt n h pP (-1) - stAt n b pP (-1)))), (3, .int (stAt n h pP (-1) - stAt n b pP (-1))), (2, .int b), (1, .int h), (0, .ref (a 0))] C iX5_findHoursShaded_102 (by decide) rfl ?_
            refine J_iinc ((nI (k + 1)) + 1) [(6, .int ((nI (k + 1)) + 1)), (5, .int ((fhAcc (wallF n pH pF pT b) (wallF n pH pF pT h) (stAt n h pP (-1) - stAt n b pP (-1)) k) ||| (1 <<< ((nI (12 + (k + 1))) &&& 31)))), (8, .int ((wallF n pH pF pT b (nI (12 + (k + 1)))) * (nI (k + 1)))), (7, .int (nI (12 + (k + 1)))), (4, .int (absI (stAt n h pP (-1) - stAt n b pP (-1)))), (3, .int (stAt n h pP (-1) - stAt n b pP (-1))), (2, .int b), (1, .int h), (0, .ref (a 0))] C iX5_findHoursShaded_104 rfl rfl (by decide) rfl ?_
            rw [show (nI (k + 1)) + 1 = nI ((k + 1) + 1) from nI_add _ _]
            refine J_goto 24 C iX5_findHoursShaded_107 rfl ?_
            refine J_lvm [(6, .int (nI ((k + 1) + 1))), (5, .int ((fhAcc (wallF n pH pF pT b) (wallF n pH pF pT h) (stAt n h pP (-1) - stAt n b pP (-1)) k) ||| (1 <<< ((nI (12 + (k + 1))) &&& 31)))), (4, .int (absI (stAt n h pP (-1) - stAt n b pP (-1)))), (3, .int (stAt n h pP (-1) - stAt n b pP (-1))), (2, .int b), (1, .int h), (0, .ref (a 0))] rfl ?_
            rw [fhAcc, if_pos (by simp only [fhYes, fhHour, if_pos h36]; exact ⟨h72, h92⟩)] at ih
            rw [fhHour, if_pos h36] at ih
            exact ih
      · refine J_bipush 12 C iX5_findHoursShaded_39 rfl ?_
        refine J_iload C iX5_findHoursShaded_41 rfl ?_
        refine J_isub C iX5_findHoursShaded_43 ?_
        refine J_goto 52 C iX5_findHoursShaded_44 rfl ?_
        refine J_istore [(7, .int (12 - (nI (k + 1)))), (6, .int (nI (k + 1))), (5, .int (fhAcc (wallF n pH pF pT b) (wallF n pH pF pT h) (stAt n h pP (-1) - stAt n b pP (-1)) k)), (4, .int (absI (stAt n h pP (-1) - stAt n b pP (-1)))), (3, .int (stAt n h pP (-1) - stAt n b pP (-1))), (2, .int b), (1, .int h), (0, .ref (a 0))] C iX5_findHoursShaded_52 (by decide) rfl ?_
        refine J_aload_n C iX5_findHoursShaded_54 rfl rfl ?_
        refine J_iload_n C iX5_findHoursShaded_55 rfl rfl ?_
        refine J_iload C iX5_findHoursShaded_56 rfl ?_
        refine J_cV (As := [.int b, .int (12 - (nI (k + 1)))]) (st := []) (rc2 := (rmK 2).cells) (rs2 := (rmK 2).slots) C iX5_findHoursShaded_58 lm_X5_80 yc_X5_wallAt yv_X5_wallAt c_X5_wallAt (q0 := 0) rfl rfl rfl rfl ⟨by decide, by decide⟩ (Nat.le_of_ble_eq_true rfl) rfl rfl ?_
        rintro _ _ ⟨rfl, rfl⟩
        refine J_st (.int (wallF n pH pF pT b (12 - (nI (k + 1)))) :: []) rfl ?_
        refine J_iload C iX5_findHoursShaded_61 rfl ?_
        refine J_imul C iX5_findHoursShaded_63 ?_
        refine J_istore [(8, .int ((wallF n pH pF pT b (12 - (nI (k + 1)))) * (nI (k + 1)))), (7, .int (12 - (nI (k + 1)))), (6, .int (nI (k + 1))), (5, .int (fhAcc (wallF n pH pF pT b) (wallF n pH pF pT h) (stAt n h pP (-1) - stAt n b pP (-1)) k)), (4, .int (absI (stAt n h pP (-1) - stAt n b pP (-1)))), (3, .int (stAt n h pP (-1) - stAt n b pP (-1))), (2, .int b), (1, .int h), (0, .ref (a 0))] C iX5_findHoursShaded_64 (by decide) rfl ?_
        refine J_iload C iX5_findHoursShaded_66 rfl ?_
        refine J_iload C iX5_findHoursShaded_68 rfl ?_
        refine J_iconst 2 C iX5_findHoursShaded_70 rfl ?_
        refine J_idiv C iX5_findHoursShaded_71 (by decide) ?_
        refine J_icmpgt 104 C iX5_findHoursShaded_72 rfl (fun h72 => ?_) (fun h72 => ?_)
        · refine J_iinc ((nI (k + 1)) + 1) [(6, .int ((nI (k + 1)) + 1)), (8, .int ((wallF n pH pF pT b (12 - (nI (k + 1)))) * (nI (k + 1)))), (7, .int (12 - (nI (k + 1)))), (5, .int (fhAcc (wallF n pH pF pT b) (wallF n pH pF pT h) (stAt n h pP (-1) - stAt n b pP (-1)) k)), (4, .int (absI (stAt n h pP (-1) - stAt n b pP (-1)))), (3, .int (stAt n h pP (-1) - stAt n b pP (-1))), (2, .int b), (1, .int h), (0, .ref (a 0))] C iX5_findHoursShaded_104 rfl rfl (by decide) rfl ?_
          rw [show (nI (k + 1)) + 1 = nI ((k + 1) + 1) from nI_add _ _]
          refine J_goto 24 C iX5_findHoursShaded_107 rfl ?_
          refine J_lvm [(6, .int (nI ((k + 1) + 1))), (5, .int (fhAcc (wallF n pH pF pT b) (wallF n pH pF pT h) (stAt n h pP (-1) - stAt n b pP (-1)) k)), (4, .int (absI (stAt n h pP (-1) - stAt n b pP (-1)))), (3, .int (stAt n h pP (-1) - stAt n b pP (-1))), (2, .int b), (1, .int h), (0, .ref (a 0))] rfl ?_
          rw [fhAcc, if_neg (by simp only [fhYes, fhHour, if_neg h36]; exact (fun q => q.1 h72))] at ih
          exact ih
        · refine J_iload C iX5_findHoursShaded_75 rfl ?_
          refine J_iconst 2 C iX5_findHoursShaded_77 rfl ?_
          refine J_iload C iX5_findHoursShaded_78 rfl ?_
          refine J_imul C iX5_findHoursShaded_80 ?_
          refine J_isub C iX5_findHoursShaded_81 ?_
          refine J_iload C iX5_findHoursShaded_82 rfl ?_
          refine J_idiv C iX5_findHoursShaded_84 (nI_ne0 (by omega) (by omega)) ?_
          refine J_aload_n C iX5_findHoursShaded_85 rfl rfl ?_
          refine J_iload_n C iX5_findHoursShaded_86 rfl rfl ?_
          refine J_iload C iX5_findHoursShaded_87 rfl ?_
          refine J_cV (As := [.int h, .int (12 - (nI (k + 1)))]) (st := .int ((((wallF n pH pF pT b (12 - (nI (k + 1)))) * (nI (k + 1))) - (2 * (absI (stAt n h pP (-1) - stAt n b pP (-1))))) / (nI (k + 1))) :: []) (rc2 := (rmK 2).cells) (rs2 := (rmK 2).slots) C iX5_findHoursShaded_89 lm_X5_80 yc_X5_wallAt yv_X5_wallAt c_X5_wallAt (q0 := 0) rfl rfl rfl rfl ⟨by decide, by decide⟩ (Nat.le_of_ble_eq_true rfl) rfl rfl ?_
          rintro _ _ ⟨rfl, rfl⟩
          refine J_st (.int (wallF n pH pF pT h (12 - (nI (k + 1)))) :: .int ((((wallF n pH pF pT b (12 - (nI (k + 1)))) * (nI (k + 1))) - (2 * (absI (stAt n h pP (-1) - stAt n b pP (-1))))) / (nI (k + 1))) :: []) rfl ?_
          refine J_icmple 104 C iX5_findHoursShaded_92 rfl (fun h92 => ?_) (fun h92 => ?_)
          · refine J_iinc ((nI (k + 1)) + 1) [(6, .int ((nI (k + 1)) + 1)), (8, .int ((wallF n pH pF pT b (12 - (nI (k + 1)))) * (nI (k + 1)))), (7, .int (12 - (nI (k + 1)))), (5, .int (fhAcc (wallF n pH pF pT b) (wallF n pH pF pT h) (stAt n h pP (-1) - stAt n b pP (-1)) k)), (4, .int (absI (stAt n h pP (-1) - stAt n b pP (-1)))), (3, .int (stAt n h pP (-1) - stAt n b pP (-1))), (2, .int b), (1, .int h), (0, .ref (a 0))] C iX5_findHoursShaded_104 rfl rfl (by decide) rfl ?_
            rw [show (nI (k + 1)) + 1 = nI ((k + 1) + 1) from nI_add _ _]
            refine J_goto 24 C iX5_findHoursShaded_107 rfl ?_
            refine J_lvm [(6, .int (nI ((k + 1) + 1))), (5, .int (fhAcc (wallF n pH pF pT b) (wallF n pH pF pT h) (stAt n h pP (-1) - stAt n b pP (-1)) k)), (4, .int (absI (stAt n h pP (-1) - stAt n b pP (-1)))), (3, .int (stAt n h pP (-1) - stAt n b pP (-1))), (2, .int b), (1, .int h), (0, .ref (a 0))] rfl ?_
            rw [fhAcc, if_neg (by simp only [fhYes, fhHour, if_neg h36]; exact (fun q => q.2 h92))] at ih
            exact ih
          · refine J_iload C iX5_findHoursShaded_95 rfl ?_
            refine J_iconst 1 C iX5_findHoursShaded_97 rfl ?_
            refine J_iload C iX5_findHoursShaded_98 rfl ?_
            refine J_ishl C iX5_findHoursShaded_100 ?_
            refine J_ior C iX5_findHoursShaded_101 ?_
            refine J_istore [(5, .int ((fhAcc (wallF n pH pF pT b) (wallF n pH pF pT h) (stAt n h pP (-1) - stAt n b pP (-1)) k) ||| (1 <<< ((12 - (nI (k + 1))) &&& 31)))), (8, .int ((wallF n pH pF pT b (12 - (nI (k + 1)))) * (nI (k + 1)))), (7, .int (12 - (nI (k + 1)))), (6, .int (nI (k + 1))), (4, .int (absI (stAt n h pP (-1) - stAt n b pP (-1)))), (3, .int (stAt n h pP (-1) - stAt n b pP (-1))), (2, .int b), (1, .int h), (0, .ref (a 0))] C iX5_findHoursShaded_102 (by decide) rfl ?_
            refine J_iinc ((nI (k + 1)) + 1) [(6, .int ((nI (k + 1)) + 1)), (5, .int ((fhAcc (wallF n pH pF pT b) (wallF n pH pF pT h) (stAt n h pP (-1) - stAt n b pP (-1)) k) ||| (1 <<< ((12 - (nI (k + 1))) &&& 31)))), (8, .int ((wallF n pH pF pT b (12 - (nI (k + 1)))) * (nI (k + 1)))), (7, .int (12 - (nI (k + 1)))), (4, .int (absI (stAt n h pP (-1) - stAt n b pP (-1)))), (3, .int (stAt n h pP (-1) - stAt n b pP (-1))), (2, .int b), (1, .int h), (0, .ref (a 0))] C iX5_findHoursShaded_104 rfl rfl (by decide) rfl ?_
            rw [show (nI (k + 1)) + 1 = nI ((k + 1) + 1) from nI_add _ _]
            refine J_goto 24 C iX5_findHoursShaded_107 rfl ?_
            refine J_lvm [(6, .int (nI ((k + 1) + 1))), (5, .int ((fhAcc (wallF n pH pF pT b) (wallF n pH pF pT h) (stAt n h pP (-1) - stAt n b pP (-1)) k) ||| (1 <<< ((12 - (nI (k + 1))) &&& 31)))), (4, .int (absI (stAt n h pP (-1) - stAt n b pP (-1)))), (3, .int (stAt n h pP (-1) - stAt n b pP (-1))), (2, .int b), (1, .int h), (0, .ref (a 0))] rfl ?_
            rw [fhAcc, if_pos (by simp only [fhYes, fhHour, if_neg h36]; exact ⟨h72, h92⟩)] at ih
            rw [fhHour, if_neg h36] at ih
            exact ih

set_option maxRecDepth 100000 in
set_option maxHeartbeats 4000000 in
theorem c_X5_addUp {Z : GZ} {l : Launch} {a : Nat → Nat} {N : Nat} {dg co li : Int32} {pP pH pF pT pS pD pC : Nat → Int32} (hN : N ≤ 12)  : Ct Z l yX5_addUp cX5_addUp 5 none (rmK 2) [.ref (a 0)] (wSt Z a (nI N) dg co li pP pH pF pT pS pD pC) (fun v w => v = none ∧ w = (wSt Z a (nI N) dg co (lostF N pS N) pP pH pF pT pS (fillN (darkF N pS) pD N) (fillN (castF N pS) pC N))) := by
  refine Ct.ofJ (own := RX5) (nm := "addUp") (lv0 := [(0, .ref (a 0))]) (by decide) rfl rfl (Nat.le_of_ble_eq_true rfl) rfl (fun X hXl C E => ?_)
  subst hXl
  refine J_aload_n C iX5_addUp_0 rfl rfl ?_
  refine J_iconst 0 C iX5_addUp_1 rfl ?_
  refine J_put (wSt Z a (nI N) dg co 0 pP pH pF pT pS pD pC) 0 C iX5_addUp_2 pf_X5_61 rfl rfl rfl (Nat.le_of_ble_eq_true rfl) rfl ?_
  refine J_iconst 0 C iX5_addUp_5 rfl ?_
  refine J_istore_n [(1, .int 0), (0, .ref (a 0))] C iX5_addUp_6 rfl (by decide) rfl ?_
  refine J_lvm [(1, .int (nI 0)), (0, .ref (a 0))] rfl ?_
  refine J_ws (wSt Z a (nI N) dg co (lostF N pS 0) pP pH pF pT pS (fillN (darkF N pS) pD 0) (fillN (castF N pS) pC 0)) (by rw [fillN_0, fillN_0]; rfl) ?_
  refine J_for (fun k => [(1, .int (nI k)), (0, .ref (a 0))]) (fun k => (wSt Z a (nI N) dg co (lostF N pS k) pP pH pF pT pS (fillN (darkF N pS) pD k) (fillN (castF N pS) pC k))) N 0 (by omega) ?_ (fun k hk0 hk ih => ?_)
  · refine J_iload_n C iX5_addUp_7 rfl rfl ?_
    refine J_aload_n C iX5_addUp_8 rfl rfl ?_
    refine J_get (.int (nI N)) 0 C iX5_addUp_9 gf_X5_43 rfl rfl ?_
    refine J_icmpge 99 C iX5_addUp_12 rfl (fun h12 => ?_) (fun h12 => absurd (Int32.le_refl _) h12)
    exact J_vret C E iX5_addUp_99 ⟨rfl, rfl⟩
  · refine J_iload_n C iX5_addUp_7 rfl rfl ?_
    refine J_aload_n C iX5_addUp_8 rfl rfl ?_
    refine J_get (.int (nI N)) 0 C iX5_addUp_9 gf_X5_43 rfl rfl ?_
    refine J_icmpge 99 C iX5_addUp_12 rfl (fun h12 => absurd h12 (nI_ge hk (by omega))) (fun h12 => ?_)
    refine J_iload_n C iX5_addUp_15 rfl rfl ?_
    refine J_bipush 12 C iX5_addUp_16 rfl ?_
    refine J_icmpge 99 C iX5_addUp_18 rfl (fun h18 => absurd h18 (nI_ge (b := 12) (by omega) (by decide))) (fun h18 => ?_)
    refine J_iconst 0 C iX5_addUp_21 rfl ?_
    refine J_istore_n [(2, .int 0), (1, .int (nI k)), (0, .ref (a 0))] C iX5_addUp_22 rfl (by decide) rfl ?_
    refine J_iconst 0 C iX5_addUp_23 rfl ?_
    refine J_istore_n [(3, .int 0), (2, .int 0), (1, .int (nI k)), (0, .ref (a 0))] C iX5_addUp_24 rfl (by decide) rfl ?_
    refine J_iconst 0 C iX5_addUp_25 rfl ?_
    refine J_istore [(4, .int 0), (3, .int 0), (2, .int 0), (1, .int (nI k)), (0, .ref (a 0))] C iX5_addUp_26 (by decide) rfl ?_
    refine J_lvm [(4, .int (nI 0)), (3, .int (sumN (fun o => bitC (pS (o * 12 + k))) 0)), (2, .int (orN (fun o => pS (k * 12 + o)) 0)), (1, .int (nI k)), (0, .ref (a 0))] rfl ?_
    refine J_for (fun j => [(4, .int (nI j)), (3, .int (sumN (fun o => bitC (pS (o * 12 + k))) j)), (2, .int (orN (fun o => pS (k * 12 + o)) j)), (1, .int (nI k)), (0, .ref (a 0))]) (fun j => (wSt Z a (nI N) dg co (lostF N pS k) pP pH pF pT pS (fillN (darkF N pS) pD k) (fillN (castF N pS) pC k))) N 0 (by omega) ?_ (fun j hj0 hj ihj => ?_)
    · refine J_iload C iX5_addUp_28 rfl ?_
      refine J_aload_n C iX5_addUp_30 rfl rfl ?_
      refine J_get (.int (nI N)) 0 C iX5_addUp_31 gf_X5_43 rfl rfl ?_
      refine J_icmpge 66 C iX5_addUp_34 rfl (fun h34 => ?_) (fun h34 => absurd (Int32.le_refl _) h34)
      refine J_aload_n C iX5_addUp_66 rfl rfl ?_
      refine J_get (.ref (a 6)) 0 C iX5_addUp_67 gf_X5_27 rfl rfl ?_
      refine J_iload_n C iX5_addUp_70 rfl rfl ?_
      refine J_iload_n C iX5_addUp_71 rfl rfl ?_
      refine J_iast (wSt Z a (nI N) dg co (lostF N pS k) pP pH pF pT pS (upd (fillN (darkF N pS) pD k) (nI k).toNatClampNeg (orN (fun o => pS (k * 12 + o)) N)) (fillN (castF N pS) pC k)) 6 C iX5_addUp_72 rfl (vp_in_nI (by omega) (by decide)) rfl ?_
      rw [nI_clamp (n := k) (by omega)]
      refine J_aload_n C iX5_addUp_73 rfl rfl ?_
      refine J_get (.ref (a 7)) 0 C iX5_addUp_74 gf_X5_30 rfl rfl ?_
      refine J_iload_n C iX5_addUp_77 rfl rfl ?_
      refine J_iload_n C iX5_addUp_78 rfl rfl ?_
      refine J_iast (wSt Z a (nI N) dg co (lostF N pS k) pP pH pF pT pS (upd (fillN (darkF N pS) pD k) k (orN (fun o => pS (k * 12 + o)) N)) (upd (fillN (castF N pS) pC k) (nI k).toNatClampNeg (sumN (fun o => bitC (pS (o * 12 + k))) N))) 7 C iX5_addUp_79 rfl (vp_in_nI (by omega) (by decide)) rfl ?_
      rw [nI_clamp (n := k) (by omega)]
      refine J_aload_n C iX5_addUp_80 rfl rfl ?_
      refine J_dup C iX5_addUp_81 rfl ?_
      refine J_get (.int (lostF N pS k)) 0 C iX5_addUp_82 gf_X5_61 rfl rfl ?_
      refine J_iload_n C iX5_addUp_85 rfl rfl ?_
      refine J_cSp (As := [.int (orN (fun o => pS (k * 12 + o)) N)]) (st := .int (lostF N pS k) :: .ref (a 0) :: []) C iX5_addUp_86 lm_X5_86 yc_J6_bitCount_0f7a4 ys_J6_bitCount_0f7a4 c_J6_bitCount_0f7a4 rfl ⟨by decide, by decide⟩ (Nat.le_of_ble_eq_true rfl) ⟨rfl, rfl⟩ ?_
      rintro _ rfl
      refine J_st (.int (bitC (orN (fun o => pS (k * 12 + o)) N)) :: .int (lostF N pS k) :: .ref (a 0) :: []) rfl ?_
      refine J_iadd C iX5_addUp_89 ?_
      refine J_put (wSt Z a (nI N) dg co ((lostF N pS k) + (bitC (orN (fun o => pS (k * 12 + o)) N))) pP pH pF pT pS (upd (fillN (darkF N pS) pD k) k (orN (fun o => pS (k * 12 + o)) N)) (upd (fillN (castF N pS) pC k) k (sumN (fun o => bitC (pS (o * 12 + k))) N))) 0 C iX5_addUp_90 pf_X5_61 rfl rfl rfl (Nat.le_of_ble_eq_true rfl) rfl ?_
      refine J_iinc ((nI k) + 1) [(1, .int ((nI k) + 1)), (4, .int (nI N)), (3, .int (sumN (fun o => bitC (pS (o * 12 + k))) N)), (2, .int (orN (fun o => pS (k * 12 + o)) N)), (0, .ref (a 0))] C iX5_addUp_93 rfl rfl (by decide) rfl ?_
      rw [show (nI k) + 1 = nI (k + 1) from nI_add _ _]
      refine J_goto 7 C iX5_addUp_96 rfl ?_
      refine J_lvm [(1, .int (nI (k + 1))), (0, .ref (a 0))] rfl ?_
      rw [show upd (fillN (darkF N pS) pD k) k (orN (fun o => pS (k * 12 + o)) N) = fillN (darkF N pS) pD (k + 1) from fillN_s _ _ _, show upd (fillN (castF N pS) pC k) k (sumN (fun o => bitC (pS (o * 12 + k))) N) = fillN (castF N pS) pC (k + 1) from fillN_s _ _ _]
      exact ih
    · refine J_iload C iX5_addUp_28 rfl ?_
      refine J_aload_n C iX5_addUp_30 rfl rfl ?_
      refine J_get (.int (nI N)) 0 C iX5_addUp_31 gf_X5_43 rfl rfl ?_
      refine J_icmpge 66 C iX5_addUp_34 rfl (fun h34 => absurd h34 (nI_ge hj (by omega))) (fun h34 => ?_)
      refine J_iload_n C iX5_addUp_37 rfl rfl ?_
      refine J_aload_n C iX5_addUp_38 rfl rfl ?_
      refine J_iload_n C iX5_addUp_39 rfl rfl ?_
      refine J_iload C iX5_addUp_40 rfl ?_
      refine J_cV (As := [.int (nI k), .int (nI j)]) (st := .int (orN (fun o => pS (k * 12 + o)) j) :: []) (rc2 := (rmK 2).cells) (rs2 := (rmK 2).slots) C iX5_addUp_42 lm_X5_101 yc_X5_hoursShaded yv_X5_hoursShaded c_X5_hoursShaded (q0 := 0) rfl rfl rfl rfl ⟨by decide, by decide⟩ (Nat.le_of_ble_eq_true rfl) rfl rfl ?_
      rintro _ _ ⟨rfl, rfl⟩
      refine J_st (.int (shF (nI N) pS (nI k) (nI j)) :: .int (orN (fun o => pS (k * 12 + o)) j) :: []) rfl ?_
      refine J_ior C iX5_addUp_45 ?_
      refine J_istore_n [(2, .int ((orN (fun o => pS (k * 12 + o)) j) ||| (shF (nI N) pS (nI k) (nI j)))), (4, .int (nI j)), (3, .int (sumN (fun o => bitC (pS (o * 12 + k))) j)), (1, .int (nI k)), (0, .ref (a 0))] C iX5_addUp_46 rfl (by decide) rfl ?_
      refine J_iload_n C iX5_addUp_47 rfl rfl ?_
      refine J_aload_n C iX5_addUp_48 rfl rfl ?_
      refine J_iload C iX5_addUp_49 rfl ?_
      refine J_iload_n C iX5_addUp_51 rfl rfl ?_
      refine J_cV (As := [.int (nI j), .int (nI k)]) (st := .int (sumN (fun o => bitC (pS (o * 12 + k))) j) :: []) (rc2 := (rmK 2).cells) (rs2 := (rmK 2).slots) C iX5_addUp_52 lm_X5_101 yc_X5_hoursShaded yv_X5_hoursShaded c_X5_hoursShaded (q0 := 0) rfl rfl rfl rfl ⟨by decide, by decide⟩ (Nat.le_of_ble_eq_true rfl) rfl rfl ?_
      rintro _ _ ⟨rfl, rfl⟩
      refine J_st (.int (shF (nI N) pS (nI j) (nI k)) :: .int (sumN (fun o => bitC (pS (o * 12 + k))) j) :: []) rfl ?_
      refine J_cSp (As := [.int (shF (nI N) pS (nI j) (nI k))]) (st := .int (sumN (fun o => bitC (pS (o * 12 + k))) j) :: []) C iX5_addUp_55 lm_X5_86 yc_J6_bitCount_0f7a4 ys_J6_bitCount_0f7a4 c_J6_bitCount_0f7a4 rfl ⟨by decide, by decide⟩ (Nat.le_of_ble_eq_true rfl) ⟨rfl, rfl⟩ ?_
      rintro _ rfl
      refine J_st (.int (bitC (shF (nI N) pS (nI j) (nI k))) :: .int (sumN (fun o => bitC (pS (o * 12 + k))) j) :: []) rfl ?_
      refine J_iadd C iX5_addUp_58 ?_
      refine J_istore_n [(3, .int ((sumN (fun o => bitC (pS (o * 12 + k))) j) + (bitC (shF (nI N) pS (nI j) (nI k))))), (2, .int ((orN (fun o => pS (k * 12 + o)) j) ||| (shF (nI N) pS (nI k) (nI j)))), (4, .int (nI j)), (1, .int (nI k)), (0, .ref (a 0))] C iX5_addUp_59 rfl (by decide) rfl ?_
      refine J_iinc ((nI j) + 1) [(4, .int ((nI j) + 1)), (3, .int ((sumN (fun o => bitC (pS (o * 12 + k))) j) + (bitC (shF (nI N) pS (nI j) (nI k))))), (2, .int ((orN (fun o => pS (k * 12 + o)) j) ||| (shF (nI N) pS (nI k) (nI j)))), (1, .int (nI k)), (0, .ref (a 0))] C iX5_addUp_60 rfl rfl (by decide) rfl ?_
      rw [show (nI j) + 1 = nI (j + 1) from nI_add _ _]
      refine J_goto 28 C iX5_addUp_63 rfl ?_
      refine J_lvm [(4, .int (nI (j + 1))), (3, .int ((sumN (fun o => bitC (pS (o * 12 + k))) j) + (bitC (shF (nI N) pS (nI j) (nI k))))), (2, .int ((orN (fun o => pS (k * 12 + o)) j) ||| (shF (nI N) pS (nI k) (nI j)))), (1, .int (nI k)), (0, .ref (a 0))] rfl ?_
      rw [shF_nI hk hj hN, shF_nI hj hk hN]
      exact ihj

set_option maxRecDepth 100000 in
set_option maxHeartbeats 4000000 in
theorem c_X5_renew {Z : GZ} {l : Launch} {a : Nat → Nat} {N h : Nat} {dg co li : Int32} {pP pH pF pT pS pD pC : Nat → Int32} (hN : N ≤ 12) (hh : h < N)  : Ct Z l yX5_renew cX5_renew 3 none (rmK 3) [.ref (a 0), .int (nI h)] (wSt Z a (nI N) dg co li pP pH pF pT pS pD pC) (fun v w => v = none ∧ w = (wSt Z a (nI N) dg co (lostF N (renS (gF N pP pH pF pT) h pS N) N) pP pH pF pT (renS (gF N pP pH pF pT) h pS N) (fillN (darkF N (renS (gF N pP pH pF pT) h pS N)) pD N) (fillN (castF N (renS (gF N pP pH pF pT) h pS N)) pC N))) := by
  refine Ct.ofJ (own := RX5) (nm := "renew") (lv0 := [(0, .ref (a 0)), (1, .int (nI h))]) (by decide) rfl rfl (Nat.le_of_ble_eq_true rfl) rfl (fun X hXl C E => ?_)
  subst hXl
  refine J_iconst 0 C iX5_renew_0 rfl ?_
  refine J_istore_n [(2, .int 0), (0, .ref (a 0)), (1, .int (nI h))] C iX5_renew_1 rfl (by decide) rfl ?_
  refine J_lvm [(2, .int (nI 0)), (1, .int (nI h)), (0, .ref (a 0))] rfl ?_
  refine J_ws (wSt Z a (nI N) dg co li pP pH pF pT (renS (gF N pP pH pF pT) h pS 0) pD pC) rfl ?_
  refine J_for (fun k => [(2, .int (nI k)), (1, .int (nI h)), (0, .ref (a 0))]) (fun k => (wSt Z a (nI N) dg co li pP pH pF pT (renS (gF N pP pH pF pT) h pS k) pD pC)) N 0 (by omega) ?_ (fun k hk0 hk ih => ?_)
  · refine J_iload_n C iX5_renew_2 rfl rfl ?_
    refine J_aload_n C iX5_renew_3 rfl rfl ?_
    refine J_get (.int (nI N)) 0 C iX5_renew_4 gf_X5_43 rfl rfl ?_
    refine J_icmpge 56 C iX5_renew_7 rfl (fun h7 => ?_) (fun h7 => absurd (Int32.le_refl _) h7)
    refine J_aload_n C iX5_renew_56 rfl rfl ?_
    refine J_cV (As := []) (st := []) (rc2 := (rmK 3).cells) (rs2 := (rmK 3).slots) C iX5_renew_57 lm_X5_58 yc_X5_addUp yv_X5_addUp (c_X5_addUp hN) (q0 := 0) rfl rfl rfl rfl ⟨by decide, by decide⟩ (Nat.le_of_ble_eq_true rfl) rfl rfl ?_
    rintro _ _ ⟨rfl, rfl⟩
    refine J_st ([]) rfl ?_
    exact J_vret C E iX5_renew_60 ⟨rfl, rfl⟩
  · refine J_iload_n C iX5_renew_2 rfl rfl ?_
    refine J_aload_n C iX5_renew_3 rfl rfl ?_
    refine J_get (.int (nI N)) 0 C iX5_renew_4 gf_X5_43 rfl rfl ?_
    refine J_icmpge 56 C iX5_renew_7 rfl (fun h7 => absurd h7 (nI_ge hk (by omega))) (fun h7 => ?_)
    refine J_iload_n C iX5_renew_10 rfl rfl ?_
    refine J_bipush 12 C iX5_renew_11 rfl ?_
    refine J_icmpge 56 C iX5_renew_13 rfl (fun h13 => absurd h13 (nI_ge (b := 12) (by omega) (by decide))) (fun h13 => ?_)
    refine J_aload_n C iX5_renew_16 rfl rfl ?_
    refine J_get (.ref (a 5)) 0 C iX5_renew_17 gf_X5_24 rfl rfl ?_
    refine J_iload_n C iX5_renew_20 rfl rfl ?_
    refine J_bipush 12 C iX5_renew_21 rfl ?_
    refine J_imul C iX5_renew_23 ?_
    refine J_iload_n C iX5_renew_24 rfl rfl ?_
    refine J_iadd C iX5_renew_25 ?_
    refine J_aload_n C iX5_renew_26 rfl rfl ?_
    refine J_iload_n C iX5_renew_27 rfl rfl ?_
    refine J_iload_n C iX5_renew_28 rfl rfl ?_
    refine J_cV (As := [.int (nI h), .int (nI k)]) (st := .int (((nI h) * 12) + (nI k)) :: .ref (a 5) :: []) (rc2 := (rmK 3).cells) (rs2 := (rmK 3).slots) C iX5_renew_29 lm_X5_54 yc_X5_findHoursShaded yv_X5_findHoursShaded c_X5_findHoursShaded (q0 := 0) rfl rfl rfl rfl ⟨by decide, by decide⟩ (Nat.le_of_ble_eq_true rfl) rfl rfl ?_
    rintro _ _ ⟨rfl, rfl⟩
    refine J_st (.int (fhF (nI N) pP pH pF pT (nI h) (nI k)) :: .int (((nI h) * 12) + (nI k)) :: .ref (a 5) :: []) rfl ?_
    refine J_iast (wSt Z a (nI N) dg co li pP pH pF pT (upd (renS (gF N pP pH pF pT) h pS k) (((nI h) * 12) + (nI k)).toNatClampNeg (fhF (nI N) pP pH pF pT (nI h) (nI k))) pD pC) 5 C iX5_renew_32 rfl (ij_in (by omega) (by omega)) rfl ?_
    refine J_aload_n C iX5_renew_33 rfl rfl ?_
    refine J_get (.ref (a 5)) 0 C iX5_renew_34 gf_X5_24 rfl rfl ?_
    refine J_iload_n C iX5_renew_37 rfl rfl ?_
    refine J_bipush 12 C iX5_renew_38 rfl ?_
    refine J_imul C iX5_renew_40 ?_
    refine J_iload_n C iX5_renew_41 rfl rfl ?_
    refine J_iadd C iX5_renew_42 ?_
    refine J_aload_n C iX5_renew_43 rfl rfl ?_
    refine J_iload_n C iX5_renew_44 rfl rfl ?_
    refine J_iload_n C iX5_renew_45 rfl rfl ?_
    refine J_cV (As := [.int (nI k), .int (nI h)]) (st := .int (((nI k) * 12) + (nI h)) :: .ref (a 5) :: []) (rc2 := (rmK 3).cells) (rs2 := (rmK 3).slots) C iX5_renew_46 lm_X5_54 yc_X5_findHoursShaded yv_X5_findHoursShaded c_X5_findHoursShaded (q0 := 0) rfl rfl rfl rfl ⟨by decide, by decide⟩ (Nat.le_of_ble_eq_true rfl) rfl rfl ?_
    rintro _ _ ⟨rfl, rfl⟩
    refine J_st (.int (fhF (nI N) pP pH pF pT (nI k) (nI h)) :: .int (((nI k) * 12) + (nI h)) :: .ref (a 5) :: []) rfl ?_
    refine J_iast (wSt Z a (nI N) dg co li pP pH pF pT (upd (upd (renS (gF N pP pH pF pT) h pS k) (((nI h) * 12) + (nI k)).toNatClampNeg (fhF (nI N) pP pH pF pT (nI h) (nI k))) (((nI k) * 12) + (nI h)).toNatClampNeg (fhF (nI N) pP pH pF pT (nI k) (nI h))) pD pC) 5 C iX5_renew_49 rfl (ij_in (by omega) (by omega)) rfl ?_
    refine J_iinc ((nI k) + 1) [(2, .int ((nI k) + 1)), (1, .int (nI h)), (0, .ref (a 0))] C iX5_renew_50 rfl rfl (by decide) rfl ?_
    rw [show (nI k) + 1 = nI (k + 1) from nI_add _ _]
    refine J_goto 2 C iX5_renew_53 rfl ?_
    refine J_lvm [(2, .int (nI (k + 1))), (1, .int (nI h)), (0, .ref (a 0))] rfl ?_
    rw [ij_nI (by omega) (by omega), ij_nI (by omega) (by omega)]
    exact ih

