/-- a street's cells: its numbers, its rows -/
def wSt (Z : GZ) (a : Nat → Nat) (n dg co li : Int32) (pP pH pF pT pS pD pC : Nat → Int32) : va_W := [(a 0, .inr (4, [.int n, .int dg, .int co, .int li, .ref (a 1), .ref (a 2), .ref (a 3), .ref (a 4), .ref (a 5), .ref (a 6), .ref (a 7)])), (a 1, .inl (zA Z 0, 12, .inl pP)), (a 2, .inl (zA Z 0, 12, .inl pH)), (a 3, .inl (zA Z 0, 12, .inl pF)), (a 4, .inl (zA Z 0, 12, .inl pT)), (a 5, .inl (zA Z 0, 144, .inl pS)), (a 6, .inl (zA Z 0, 12, .inl pD)), (a 7, .inl (zA Z 0, 12, .inl pC))]
def hasB (n h : Int32) : Bool := !decide (h < 0) && (!decide (n ≤ h) && !decide (12 ≤ h))
theorem hasB_in {n h : Int32} (e : hasB n h = true) : vp_in h 12 := by
  simp only [hasB, Bool.and_eq_true, Bool.not_eq_true', decide_eq_false_iff_not] at e
  obtain ⟨h1, -, h2⟩ := e
  refine vinI ?_ ?_
  · have := Int32.not_lt.mp h1
    simpa using Int32.le_iff_toInt_le.mp this
  · have := Int32.not_le.mp h2
    simpa using Int32.lt_iff_toInt_lt.mp this
def stAt (n h : Int32) (f : Nat → Int32) (x : Int32) : Int32 := if hasB n h = true then f h.toNatClampNeg else x
def wallF (n : Int32) (pH pF pT : Nat → Int32) (h hr : Int32) : Int32 := if hasB n h = false then 0 else if ¬ hr < pF h.toNatClampNeg ∧ ¬ pT h.toNatClampNeg < hr then 0 else pH h.toNatClampNeg
def absI (x : Int32) : Int32 := if 0 ≤ x then x else 0 - x
def stepsF (hr : Int32) : Int32 := if hr < 6 ∨ ¬ hr ≤ 18 then 0 else absI (hr - 12)
def bc1 (x : Int32) : Int32 := x - ((x.toUInt32 >>> ((1 : Int32).toUInt32 &&& Int32.toUInt32 31)).toInt32 &&& 1431655765)
def bc2 (x : Int32) : Int32 := (x &&& 858993459) + ((x.toUInt32 >>> ((2 : Int32).toUInt32 &&& Int32.toUInt32 31)).toInt32 &&& 858993459)
def bc3 (x : Int32) : Int32 := (x + (x.toUInt32 >>> ((4 : Int32).toUInt32 &&& Int32.toUInt32 31)).toInt32) &&& 252645135
def bc4 (x : Int32) : Int32 := x + (x.toUInt32 >>> ((8 : Int32).toUInt32 &&& Int32.toUInt32 31)).toInt32
def bc5 (x : Int32) : Int32 := x + (x.toUInt32 >>> ((16 : Int32).toUInt32 &&& Int32.toUInt32 31)).toInt32
def bitC (x : Int32) : Int32 := bc5 (bc4 (bc3 (bc2 (bc1 x)))) &&& 63
def shF (n : Int32) (pS : Nat → Int32) (h b : Int32) : Int32 := if hasB n h = true ∧ hasB n b = true then pS (h * 12 + b).toNatClampNeg else 0
theorem shF_in {n h b : Int32} (e : hasB n h = true) (e2 : hasB n b = true) : vp_in (h * 12 + b) 144 := by
  obtain ⟨i, hi, rfl⟩ := vp_in_of (hasB_in e) (by decide)
  obtain ⟨j, hj, rfl⟩ := vp_in_of (hasB_in e2) (by decide)
  rw [show (12 : Int32) = nI 12 from rfl, pk_mul, nI_add]
  exact vp_in_nI (by omega) (by decide)
set_option maxRecDepth 100000 in
set_option maxHeartbeats 4000000 in
theorem c_J6_bitCount_0f7a4 {Z : GZ} {l : Launch} {x : Int32}  : Ct Z l yJ6_bitCount_0f7a4 cJ6_bitCount_0f7a4 1 (some .int) (rmK 0) [.int x] [] (fun v w => v = some (.int (bitC x)) ∧ w = []) := by
  refine Ct.ofJ (own := RJ6) (nm := "bitCount") (lv0 := [(0, .int x)]) (by decide) rfl rfl (Nat.le_of_ble_eq_true rfl) rfl (fun X hXl C E => ?_)
  subst hXl
  refine J_iload_n C iJ6_bitCount_0f7a4_0 rfl rfl ?_
  refine J_iload_n C iJ6_bitCount_0f7a4_1 rfl rfl ?_
  refine J_iconst 1 C iJ6_bitCount_0f7a4_2 rfl ?_
  refine J_iushr C iJ6_bitCount_0f7a4_3 ?_
  refine J_ldcw 1431655765 C iJ6_bitCount_0f7a4_4 (tsg_in (i := 352) (by decide +kernel) rfl) ?_
  refine J_iand C iJ6_bitCount_0f7a4_7 ?_
  refine J_isub C iJ6_bitCount_0f7a4_8 ?_
  refine J_istore_n [(0, .int (x - (((x.toUInt32 >>> ((1 : Int32).toUInt32 &&& Int32.toUInt32 31)).toInt32) &&& 1431655765)))] C iJ6_bitCount_0f7a4_9 rfl (by decide) rfl ?_
  generalize hx1 : x - (((x.toUInt32 >>> ((1 : Int32).toUInt32 &&& Int32.toUInt32 31)).toInt32) &&& 1431655765) = x1
  refine J_iload_n C iJ6_bitCount_0f7a4_10 rfl rfl ?_
  refine J_ldcw 858993459 C iJ6_bitCount_0f7a4_11 (tsg_in (i := 353) (by decide +kernel) rfl) ?_
  refine J_iand C iJ6_bitCount_0f7a4_14 ?_
  refine J_iload_n C iJ6_bitCount_0f7a4_15 rfl rfl ?_
  refine J_iconst 2 C iJ6_bitCount_0f7a4_16 rfl ?_
  refine J_iushr C iJ6_bitCount_0f7a4_17 ?_
  refine J_ldcw 858993459 C iJ6_bitCount_0f7a4_18 (tsg_in (i := 353) (by decide +kernel) rfl) ?_
  refine J_iand C iJ6_bitCount_0f7a4_21 ?_
  refine J_iadd C iJ6_bitCount_0f7a4_22 ?_
  refine J_istore_n [(0, .int ((x1 &&& 858993459) + (((x1.toUInt32 >>> ((2 : Int32).toUInt32 &&& Int32.toUInt32 31)).toInt32) &&& 858993459)))] C iJ6_bitCount_0f7a4_23 rfl (by decide) rfl ?_
  generalize hx2 : (x1 &&& 858993459) + (((x1.toUInt32 >>> ((2 : Int32).toUInt32 &&& Int32.toUInt32 31)).toInt32) &&& 858993459) = x2
  refine J_iload_n C iJ6_bitCount_0f7a4_24 rfl rfl ?_
  refine J_iload_n C iJ6_bitCount_0f7a4_25 rfl rfl ?_
  refine J_iconst 4 C iJ6_bitCount_0f7a4_26 rfl ?_
  refine J_iushr C iJ6_bitCount_0f7a4_27 ?_
  refine J_iadd C iJ6_bitCount_0f7a4_28 ?_
  refine J_ldcw 252645135 C iJ6_bitCount_0f7a4_29 (tsg_in (i := 354) (by decide +kernel) rfl) ?_
  refine J_iand C iJ6_bitCount_0f7a4_32 ?_
  refine J_istore_n [(0, .int ((x2 + ((x2.toUInt32 >>> ((4 : Int32).toUInt32 &&& Int32.toUInt32 31)).toInt32)) &&& 252645135))] C iJ6_bitCount_0f7a4_33 rfl (by decide) rfl ?_
  generalize hx3 : (x2 + ((x2.toUInt32 >>> ((4 : Int32).toUInt32 &&& Int32.toUInt32 31)).toInt32)) &&& 252645135 = x3
  refine J_iload_n C iJ6_bitCount_0f7a4_34 rfl rfl ?_
  refine J_iload_n C iJ6_bitCount_0f7a4_35 rfl rfl ?_
  refine J_bipush 8 C iJ6_bitCount_0f7a4_36 rfl ?_
  refine J_iushr C iJ6_bitCount_0f7a4_38 ?_
  refine J_iadd C iJ6_bitCount_0f7a4_39 ?_
  refine J_istore_n [(0, .int (x3 + ((x3.toUInt32 >>> ((8 : Int32).toUInt32 &&& Int32.toUInt32 31)).toInt32)))] C iJ6_bitCount_0f7a4_40 rfl (by decide) rfl ?_
  generalize hx4 : x3 + ((x3.toUInt32 >>> ((8 : Int32).toUInt32 &&& Int32.toUInt32 31)).toInt32) = x4
  refine J_iload_n C iJ6_bitCount_0f7a4_41 rfl rfl ?_
  refine J_iload_n C iJ6_bitCount_0f7a4_42 rfl rfl ?_
  refine J_bipush 16 C iJ6_bitCount_0f7a4_43 rfl ?_
  refine J_iushr C iJ6_bitCount_0f7a4_45 ?_
  refine J_iadd C iJ6_bitCount_0f7a4_46 ?_
  refine J_istore_n [(0, .int (x4 + ((x4.toUInt32 >>> ((16 : Int32).toUInt32 &&& Int32.toUInt32 31)).toInt32)))] C iJ6_bitCount_0f7a4_47 rfl (by decide) rfl ?_
  generalize hx5 : x4 + ((x4.toUInt32 >>> ((16 : Int32).toUInt32 &&& Int32.toUInt32 31)).toInt32) = x5
  refine J_iload_n C iJ6_bitCount_0f7a4_48 rfl rfl ?_
  refine J_bipush 63 C iJ6_bitCount_0f7a4_49 rfl ?_
  refine J_iand C iJ6_bitCount_0f7a4_51 ?_
  exact J_iret C E iJ6_bitCount_0f7a4_52 ⟨by subst hx5; subst hx4; subst hx3; subst hx2; subst hx1; rfl, rfl⟩

set_option maxRecDepth 100000 in
set_option maxHeartbeats 4000000 in
theorem c_X5_has {Z : GZ} {l : Launch} {a : Nat → Nat} {n dg co li : Int32} {pP pH pF pT pS pD pC : Nat → Int32} {h : Int32}  : Ct Z l yX5_has cX5_has 2 (some .boolean) (rmK 0) [.ref (a 0), .int h] (wSt Z a n dg co li pP pH pF pT pS pD pC) (fun v w => v = some (.int (b2i (hasB n h))) ∧ w = (wSt Z a n dg co li pP pH pF pT pS pD pC)) := by
  refine Ct.ofJ (own := RX5) (nm := "has") (lv0 := [(0, .ref (a 0)), (1, .int h)]) (by decide) rfl rfl (Nat.le_of_ble_eq_true rfl) rfl (fun X hXl C E => ?_)
  subst hXl
  refine J_iload_n C iX5_has_0 rfl rfl ?_
  refine J_iflt 22 C iX5_has_1 rfl (fun h1 => ?_) (fun h1 => ?_)
  · refine J_iconst 0 C iX5_has_22 rfl ?_
    exact J_zret C E iX5_has_23 rfl ⟨by simp [hasB, h1, b2i], rfl⟩
  · refine J_iload_n C iX5_has_4 rfl rfl ?_
    refine J_aload_n C iX5_has_5 rfl rfl ?_
    refine J_get (.int n) 0 C iX5_has_6 gf_X5_43 rfl rfl ?_
    refine J_icmpge 22 C iX5_has_9 rfl (fun h9 => ?_) (fun h9 => ?_)
    · refine J_iconst 0 C iX5_has_22 rfl ?_
      exact J_zret C E iX5_has_23 rfl ⟨by simp [hasB, h1, h9, b2i], rfl⟩
    · refine J_iload_n C iX5_has_12 rfl rfl ?_
      refine J_bipush 12 C iX5_has_13 rfl ?_
      refine J_icmpge 22 C iX5_has_15 rfl (fun h15 => ?_) (fun h15 => ?_)
      · refine J_iconst 0 C iX5_has_22 rfl ?_
        exact J_zret C E iX5_has_23 rfl ⟨by simp [hasB, h1, h9, h15, b2i], rfl⟩
      · refine J_iconst 1 C iX5_has_18 rfl ?_
        refine J_goto 23 C iX5_has_19 rfl ?_
        exact J_zret C E iX5_has_23 rfl ⟨by simp [hasB, h1, h9, h15, b2i], rfl⟩

set_option maxRecDepth 100000 in
set_option maxHeartbeats 4000000 in
theorem c_X5_place {Z : GZ} {l : Launch} {a : Nat → Nat} {n dg co li : Int32} {pP pH pF pT pS pD pC : Nat → Int32} {h : Int32}  : Ct Z l yX5_place cX5_place 2 (some .int) (rmK 1) [.ref (a 0), .int h] (wSt Z a n dg co li pP pH pF pT pS pD pC) (fun v w => v = some (.int (stAt n h pP (-1))) ∧ w = (wSt Z a n dg co li pP pH pF pT pS pD pC)) := by
  refine Ct.ofJ (own := RX5) (nm := "place") (lv0 := [(0, .ref (a 0)), (1, .int h)]) (by decide) rfl rfl (Nat.le_of_ble_eq_true rfl) rfl (fun X hXl C E => ?_)
  subst hXl
  refine J_aload_n C iX5_place_0 rfl rfl ?_
  refine J_iload_n C iX5_place_1 rfl rfl ?_
  refine J_cV (As := [.int h]) (st := []) (rc2 := (rmK 1).cells) (rs2 := (rmK 1).slots) C iX5_place_2 lm_X5_70 yc_X5_has yv_X5_has c_X5_has (q0 := 0) rfl rfl rfl rfl ⟨by decide, by decide⟩ (Nat.le_of_ble_eq_true rfl) rfl rfl ?_
  rintro _ _ ⟨rfl, rfl⟩
  refine J_st (.int (b2i (hasB n h)) :: []) rfl ?_
  refine J_ifeqb 17 C iX5_place_5 rfl (fun h5 => ?_) (fun h5 => ?_)
  · refine J_iconst (-1) C iX5_place_17 rfl ?_
    exact J_iret C E iX5_place_18 ⟨by simp [stAt, h5, b2i], rfl⟩
  · refine J_aload_n C iX5_place_8 rfl rfl ?_
    refine J_get (.ref (a 1)) 0 C iX5_place_9 gf_X5_9 rfl rfl ?_
    refine J_iload_n C iX5_place_12 rfl rfl ?_
    refine J_iald 1 C iX5_place_13 rfl (hasB_in h5) ?_
    refine J_goto 18 C iX5_place_14 rfl ?_
    exact J_iret C E iX5_place_18 ⟨by simp [stAt, h5, b2i], rfl⟩

set_option maxRecDepth 100000 in
set_option maxHeartbeats 4000000 in
theorem c_X5_height {Z : GZ} {l : Launch} {a : Nat → Nat} {n dg co li : Int32} {pP pH pF pT pS pD pC : Nat → Int32} {h : Int32}  : Ct Z l yX5_height cX5_height 2 (some .int) (rmK 1) [.ref (a 0), .int h] (wSt Z a n dg co li pP pH pF pT pS pD pC) (fun v w => v = some (.int (stAt n h pH 0)) ∧ w = (wSt Z a n dg co li pP pH pF pT pS pD pC)) := by
  refine Ct.ofJ (own := RX5) (nm := "height") (lv0 := [(0, .ref (a 0)), (1, .int h)]) (by decide) rfl rfl (Nat.le_of_ble_eq_true rfl) rfl (fun X hXl C E => ?_)
  subst hXl
  refine J_aload_n C iX5_height_0 rfl rfl ?_
  refine J_iload_n C iX5_height_1 rfl rfl ?_
  refine J_cV (As := [.int h]) (st := []) (rc2 := (rmK 1).cells) (rs2 := (rmK 1).slots) C iX5_height_2 lm_X5_70 yc_X5_has yv_X5_has c_X5_has (q0 := 0) rfl rfl rfl rfl ⟨by decide, by decide⟩ (Nat.le_of_ble_eq_true rfl) rfl rfl ?_
  rintro _ _ ⟨rfl, rfl⟩
  refine J_st (.int (b2i (hasB n h)) :: []) rfl ?_
  refine J_ifeqb 17 C iX5_height_5 rfl (fun h5 => ?_) (fun h5 => ?_)
  · refine J_iconst 0 C iX5_height_17 rfl ?_
    exact J_iret C E iX5_height_18 ⟨by simp [stAt, h5, b2i], rfl⟩
  · refine J_aload_n C iX5_height_8 rfl rfl ?_
    refine J_get (.ref (a 2)) 0 C iX5_height_9 gf_X5_15 rfl rfl ?_
    refine J_iload_n C iX5_height_12 rfl rfl ?_
    refine J_iald 2 C iX5_height_13 rfl (hasB_in h5) ?_
    refine J_goto 18 C iX5_height_14 rfl ?_
    exact J_iret C E iX5_height_18 ⟨by simp [stAt, h5, b2i], rfl⟩

set_option maxRecDepth 100000 in
set_option maxHeartbeats 4000000 in
theorem c_X5_firstLow {Z : GZ} {l : Launch} {a : Nat → Nat} {n dg co li : Int32} {pP pH pF pT pS pD pC : Nat → Int32} {h : Int32}  : Ct Z l yX5_firstLow cX5_firstLow 2 (some .int) (rmK 1) [.ref (a 0), .int h] (wSt Z a n dg co li pP pH pF pT pS pD pC) (fun v w => v = some (.int (stAt n h pF (-1))) ∧ w = (wSt Z a n dg co li pP pH pF pT pS pD pC)) := by
  refine Ct.ofJ (own := RX5) (nm := "firstLow") (lv0 := [(0, .ref (a 0)), (1, .int h)]) (by decide) rfl rfl (Nat.le_of_ble_eq_true rfl) rfl (fun X hXl C E => ?_)
  subst hXl
  refine J_aload_n C iX5_firstLow_0 rfl rfl ?_
  refine J_iload_n C iX5_firstLow_1 rfl rfl ?_
  refine J_cV (As := [.int h]) (st := []) (rc2 := (rmK 1).cells) (rs2 := (rmK 1).slots) C iX5_firstLow_2 lm_X5_70 yc_X5_has yv_X5_has c_X5_has (q0 := 0) rfl rfl rfl rfl ⟨by decide, by decide⟩ (Nat.le_of_ble_eq_true rfl) rfl rfl ?_
  rintro _ _ ⟨rfl, rfl⟩
  refine J_st (.int (b2i (hasB n h)) :: []) rfl ?_
  refine J_ifeqb 17 C iX5_firstLow_5 rfl (fun h5 => ?_) (fun h5 => ?_)
  · refine J_iconst (-1) C iX5_firstLow_17 rfl ?_
    exact J_iret C E iX5_firstLow_18 ⟨by simp [stAt, h5, b2i], rfl⟩
  · refine J_aload_n C iX5_firstLow_8 rfl rfl ?_
    refine J_get (.ref (a 3)) 0 C iX5_firstLow_9 gf_X5_18 rfl rfl ?_
    refine J_iload_n C iX5_firstLow_12 rfl rfl ?_
    refine J_iald 3 C iX5_firstLow_13 rfl (hasB_in h5) ?_
    refine J_goto 18 C iX5_firstLow_14 rfl ?_
    exact J_iret C E iX5_firstLow_18 ⟨by simp [stAt, h5, b2i], rfl⟩

set_option maxRecDepth 100000 in
set_option maxHeartbeats 4000000 in
theorem c_X5_lastLow {Z : GZ} {l : Launch} {a : Nat → Nat} {n dg co li : Int32} {pP pH pF pT pS pD pC : Nat → Int32} {h : Int32}  : Ct Z l yX5_lastLow cX5_lastLow 2 (some .int) (rmK 1) [.ref (a 0), .int h] (wSt Z a n dg co li pP pH pF pT pS pD pC) (fun v w => v = some (.int (stAt n h pT (-1))) ∧ w = (wSt Z a n dg co li pP pH pF pT pS pD pC)) := by
  refine Ct.ofJ (own := RX5) (nm := "lastLow") (lv0 := [(0, .ref (a 0)), (1, .int h)]) (by decide) rfl rfl (Nat.le_of_ble_eq_true rfl) rfl (fun X hXl C E => ?_)
  subst hXl
  refine J_aload_n C iX5_lastLow_0 rfl rfl ?_
  refine J_iload_n C iX5_lastLow_1 rfl rfl ?_
  refine J_cV (As := [.int h]) (st := []) (rc2 := (rmK 1).cells) (rs2 := (rmK 1).slots) C iX5_lastLow_2 lm_X5_70 yc_X5_has yv_X5_has c_X5_has (q0 := 0) rfl rfl rfl rfl ⟨by decide, by decide⟩ (Nat.le_of_ble_eq_true rfl) rfl rfl ?_
  rintro _ _ ⟨rfl, rfl⟩
  refine J_st (.int (b2i (hasB n h)) :: []) rfl ?_
  refine J_ifeqb 17 C iX5_lastLow_5 rfl (fun h5 => ?_) (fun h5 => ?_)
  · refine J_iconst (-1) C iX5_lastLow_17 rfl ?_
    exact J_iret C E iX5_lastLow_18 ⟨by simp [stAt, h5, b2i], rfl⟩
  · refine J_aload_n C iX5_lastLow_8 rfl rfl ?_
    refine J_get (.ref (a 4)) 0 C iX5_lastLow_9 gf_X5_21 rfl rfl ?_
    refine J_iload_n C iX5_lastLow_12 rfl rfl ?_
    refine J_iald 4 C iX5_lastLow_13 rfl (hasB_in h5) ?_
    refine J_goto 18 C iX5_lastLow_14 rfl ?_
    exact J_iret C E iX5_lastLow_18 ⟨by simp [stAt, h5, b2i], rfl⟩

set_option maxRecDepth 100000 in
set_option maxHeartbeats 4000000 in
theorem c_X5_hoursDark {Z : GZ} {l : Launch} {a : Nat → Nat} {n dg co li : Int32} {pP pH pF pT pS pD pC : Nat → Int32} {h : Int32}  : Ct Z l yX5_hoursDark cX5_hoursDark 2 (some .int) (rmK 1) [.ref (a 0), .int h] (wSt Z a n dg co li pP pH pF pT pS pD pC) (fun v w => v = some (.int (stAt n h pD 0)) ∧ w = (wSt Z a n dg co li pP pH pF pT pS pD pC)) := by
  refine Ct.ofJ (own := RX5) (nm := "hoursDark") (lv0 := [(0, .ref (a 0)), (1, .int h)]) (by decide) rfl rfl (Nat.le_of_ble_eq_true rfl) rfl (fun X hXl C E => ?_)
  subst hXl
  refine J_aload_n C iX5_hoursDark_0 rfl rfl ?_
  refine J_iload_n C iX5_hoursDark_1 rfl rfl ?_
  refine J_cV (As := [.int h]) (st := []) (rc2 := (rmK 1).cells) (rs2 := (rmK 1).slots) C iX5_hoursDark_2 lm_X5_70 yc_X5_has yv_X5_has c_X5_has (q0 := 0) rfl rfl rfl rfl ⟨by decide, by decide⟩ (Nat.le_of_ble_eq_true rfl) rfl rfl ?_
  rintro _ _ ⟨rfl, rfl⟩
  refine J_st (.int (b2i (hasB n h)) :: []) rfl ?_
  refine J_ifeqb 17 C iX5_hoursDark_5 rfl (fun h5 => ?_) (fun h5 => ?_)
  · refine J_iconst 0 C iX5_hoursDark_17 rfl ?_
    exact J_iret C E iX5_hoursDark_18 ⟨by simp [stAt, h5, b2i], rfl⟩
  · refine J_aload_n C iX5_hoursDark_8 rfl rfl ?_
    refine J_get (.ref (a 6)) 0 C iX5_hoursDark_9 gf_X5_27 rfl rfl ?_
    refine J_iload_n C iX5_hoursDark_12 rfl rfl ?_
    refine J_iald 6 C iX5_hoursDark_13 rfl (hasB_in h5) ?_
    refine J_goto 18 C iX5_hoursDark_14 rfl ?_
    exact J_iret C E iX5_hoursDark_18 ⟨by simp [stAt, h5, b2i], rfl⟩

set_option maxRecDepth 100000 in
set_option maxHeartbeats 4000000 in
theorem c_X5_cast {Z : GZ} {l : Launch} {a : Nat → Nat} {n dg co li : Int32} {pP pH pF pT pS pD pC : Nat → Int32} {h : Int32}  : Ct Z l yX5_cast cX5_cast 2 (some .int) (rmK 1) [.ref (a 0), .int h] (wSt Z a n dg co li pP pH pF pT pS pD pC) (fun v w => v = some (.int (stAt n h pC 0)) ∧ w = (wSt Z a n dg co li pP pH pF pT pS pD pC)) := by
  refine Ct.ofJ (own := RX5) (nm := "cast") (lv0 := [(0, .ref (a 0)), (1, .int h)]) (by decide) rfl rfl (Nat.le_of_ble_eq_true rfl) rfl (fun X hXl C E => ?_)
  subst hXl
  refine J_aload_n C iX5_cast_0 rfl rfl ?_
  refine J_iload_n C iX5_cast_1 rfl rfl ?_
  refine J_cV (As := [.int h]) (st := []) (rc2 := (rmK 1).cells) (rs2 := (rmK 1).slots) C iX5_cast_2 lm_X5_70 yc_X5_has yv_X5_has c_X5_has (q0 := 0) rfl rfl rfl rfl ⟨by decide, by decide⟩ (Nat.le_of_ble_eq_true rfl) rfl rfl ?_
  rintro _ _ ⟨rfl, rfl⟩
  refine J_st (.int (b2i (hasB n h)) :: []) rfl ?_
  refine J_ifeqb 17 C iX5_cast_5 rfl (fun h5 => ?_) (fun h5 => ?_)
  · refine J_iconst 0 C iX5_cast_17 rfl ?_
    exact J_iret C E iX5_cast_18 ⟨by simp [stAt, h5, b2i], rfl⟩
  · refine J_aload_n C iX5_cast_8 rfl rfl ?_
    refine J_get (.ref (a 7)) 0 C iX5_cast_9 gf_X5_30 rfl rfl ?_
    refine J_iload_n C iX5_cast_12 rfl rfl ?_
    refine J_iald 7 C iX5_cast_13 rfl (hasB_in h5) ?_
    refine J_goto 18 C iX5_cast_14 rfl ?_
    exact J_iret C E iX5_cast_18 ⟨by simp [stAt, h5, b2i], rfl⟩

set_option maxRecDepth 100000 in
set_option maxHeartbeats 4000000 in
theorem c_X5_wallAt {Z : GZ} {l : Launch} {a : Nat → Nat} {n dg co li : Int32} {pP pH pF pT pS pD pC : Nat → Int32} {h : Int32} {hr : Int32}  : Ct Z l yX5_wallAt cX5_wallAt 3 (some .int) (rmK 1) [.ref (a 0), .int h, .int hr] (wSt Z a n dg co li pP pH pF pT pS pD pC) (fun v w => v = some (.int (wallF n pH pF pT h hr)) ∧ w = (wSt Z a n dg co li pP pH pF pT pS pD pC)) := by
  refine Ct.ofJ (own := RX5) (nm := "wallAt") (lv0 := [(0, .ref (a 0)), (1, .int h), (2, .int hr)]) (by decide) rfl rfl (Nat.le_of_ble_eq_true rfl) rfl (fun X hXl C E => ?_)
  subst hXl
  refine J_aload_n C iX5_wallAt_0 rfl rfl ?_
  refine J_iload_n C iX5_wallAt_1 rfl rfl ?_
  refine J_cV (As := [.int h]) (st := []) (rc2 := (rmK 1).cells) (rs2 := (rmK 1).slots) C iX5_wallAt_2 lm_X5_70 yc_X5_has yv_X5_has c_X5_has (q0 := 0) rfl rfl rfl rfl ⟨by decide, by decide⟩ (Nat.le_of_ble_eq_true rfl) rfl rfl ?_
  rintro _ _ ⟨rfl, rfl⟩
  refine J_st (.int (b2i (hasB n h)) :: []) rfl ?_
  refine J_ifeqb 28 C iX5_wallAt_5 rfl (fun h5 => ?_) (fun h5 => ?_)
  · refine J_iconst 0 C iX5_wallAt_28 rfl ?_
    exact J_iret C E iX5_wallAt_29 ⟨by simp [wallF, h5, b2i], rfl⟩
  · refine J_aload_n C iX5_wallAt_8 rfl rfl ?_
    refine J_get (.ref (a 3)) 0 C iX5_wallAt_9 gf_X5_18 rfl rfl ?_
    refine J_iload_n C iX5_wallAt_12 rfl rfl ?_
    refine J_iald 3 C iX5_wallAt_13 rfl (hasB_in h5) ?_
    refine J_iload_n C iX5_wallAt_14 rfl rfl ?_
    refine J_icmpgt 30 C iX5_wallAt_15 rfl (fun h15 => ?_) (fun h15 => ?_)
    · refine J_aload_n C iX5_wallAt_30 rfl rfl ?_
      refine J_get (.ref (a 2)) 0 C iX5_wallAt_31 gf_X5_15 rfl rfl ?_
      refine J_iload_n C iX5_wallAt_34 rfl rfl ?_
      refine J_iald 2 C iX5_wallAt_35 rfl (hasB_in h5) ?_
      exact J_iret C E iX5_wallAt_36 ⟨by simp [wallF, h5, h15, b2i], rfl⟩
    · refine J_iload_n C iX5_wallAt_18 rfl rfl ?_
      refine J_aload_n C iX5_wallAt_19 rfl rfl ?_
      refine J_get (.ref (a 4)) 0 C iX5_wallAt_20 gf_X5_21 rfl rfl ?_
      refine J_iload_n C iX5_wallAt_23 rfl rfl ?_
      refine J_iald 4 C iX5_wallAt_24 rfl (hasB_in h5) ?_
      refine J_icmpgt 30 C iX5_wallAt_25 rfl (fun h25 => ?_) (fun h25 => ?_)
      · refine J_aload_n C iX5_wallAt_30 rfl rfl ?_
        refine J_get (.ref (a 2)) 0 C iX5_wallAt_31 gf_X5_15 rfl rfl ?_
        refine J_iload_n C iX5_wallAt_34 rfl rfl ?_
        refine J_iald 2 C iX5_wallAt_35 rfl (hasB_in h5) ?_
        exact J_iret C E iX5_wallAt_36 ⟨by simp [wallF, h5, h15, h25, b2i], rfl⟩
      · refine J_iconst 0 C iX5_wallAt_28 rfl ?_
        exact J_iret C E iX5_wallAt_29 ⟨by simp [wallF, h5, h15, h25, b2i], rfl⟩

set_option maxRecDepth 100000 in
set_option maxHeartbeats 4000000 in
theorem c_X5_hoursShaded {Z : GZ} {l : Launch} {a : Nat → Nat} {n dg co li : Int32} {pP pH pF pT pS pD pC : Nat → Int32} {h : Int32} {b : Int32}  : Ct Z l yX5_hoursShaded cX5_hoursShaded 3 (some .int) (rmK 1) [.ref (a 0), .int h, .int b] (wSt Z a n dg co li pP pH pF pT pS pD pC) (fun v w => v = some (.int (shF n pS h b)) ∧ w = (wSt Z a n dg co li pP pH pF pT pS pD pC)) := by
  refine Ct.ofJ (own := RX5) (nm := "hoursShaded") (lv0 := [(0, .ref (a 0)), (1, .int h), (2, .int b)]) (by decide) rfl rfl (Nat.le_of_ble_eq_true rfl) rfl (fun X hXl C E => ?_)
  subst hXl
  refine J_aload_n C iX5_hoursShaded_0 rfl rfl ?_
  refine J_iload_n C iX5_hoursShaded_1 rfl rfl ?_
  refine J_cV (As := [.int h]) (st := []) (rc2 := (rmK 1).cells) (rs2 := (rmK 1).slots) C iX5_hoursShaded_2 lm_X5_70 yc_X5_has yv_X5_has c_X5_has (q0 := 0) rfl rfl rfl rfl ⟨by decide, by decide⟩ (Nat.le_of_ble_eq_true rfl) rfl rfl ?_
  rintro _ _ ⟨rfl, rfl⟩
  refine J_st (.int (b2i (hasB n h)) :: []) rfl ?_
  refine J_ifeqb 30 C iX5_hoursShaded_5 rfl (fun h5 => ?_) (fun h5 => ?_)
  · refine J_iconst 0 C iX5_hoursShaded_30 rfl ?_
    exact J_iret C E iX5_hoursShaded_31 ⟨by simp [shF, h5, b2i], rfl⟩
  · refine J_aload_n C iX5_hoursShaded_8 rfl rfl ?_
    refine J_iload_n C iX5_hoursShaded_9 rfl rfl ?_
    refine J_cV (As := [.int b]) (st := []) (rc2 := (rmK 1).cells) (rs2 := (rmK 1).slots) C iX5_hoursShaded_10 lm_X5_70 yc_X5_has yv_X5_has c_X5_has (q0 := 0) rfl rfl rfl rfl ⟨by decide, by decide⟩ (Nat.le_of_ble_eq_true rfl) rfl rfl ?_
    rintro _ _ ⟨rfl, rfl⟩
    refine J_st (.int (b2i (hasB n b)) :: []) rfl ?_
    refine J_ifeqb 30 C iX5_hoursShaded_13 rfl (fun h13 => ?_) (fun h13 => ?_)
    · refine J_iconst 0 C iX5_hoursShaded_30 rfl ?_
      exact J_iret C E iX5_hoursShaded_31 ⟨by simp [shF, h5, h13, b2i], rfl⟩
    · refine J_aload_n C iX5_hoursShaded_16 rfl rfl ?_
      refine J_get (.ref (a 5)) 0 C iX5_hoursShaded_17 gf_X5_24 rfl rfl ?_
      refine J_iload_n C iX5_hoursShaded_20 rfl rfl ?_
      refine J_bipush 12 C iX5_hoursShaded_21 rfl ?_
      refine J_imul C iX5_hoursShaded_23 ?_
      refine J_iload_n C iX5_hoursShaded_24 rfl rfl ?_
      refine J_iadd C iX5_hoursShaded_25 ?_
      refine J_iald 5 C iX5_hoursShaded_26 rfl (shF_in h5 h13) ?_
      refine J_goto 31 C iX5_hoursShaded_27 rfl ?_
      exact J_iret C E iX5_hoursShaded_31 ⟨by simp [shF, h5, h13, b2i], rfl⟩

set_option maxRecDepth 100000 in
set_option maxHeartbeats 4000000 in
theorem c_X5_lost {Z : GZ} {l : Launch} {a : Nat → Nat} {n dg co li : Int32} {pP pH pF pT pS pD pC : Nat → Int32} {h : Int32}  : Ct Z l yX5_lost cX5_lost 2 (some .int) (rmK 2) [.ref (a 0), .int h] (wSt Z a n dg co li pP pH pF pT pS pD pC) (fun v w => v = some (.int (bitC (stAt n h pD 0))) ∧ w = (wSt Z a n dg co li pP pH pF pT pS pD pC)) := by
  refine Ct.ofJ (own := RX5) (nm := "lost") (lv0 := [(0, .ref (a 0)), (1, .int h)]) (by decide) rfl rfl (Nat.le_of_ble_eq_true rfl) rfl (fun X hXl C E => ?_)
  subst hXl
  refine J_aload_n C iX5_lost_0 rfl rfl ?_
  refine J_iload_n C iX5_lost_1 rfl rfl ?_
  refine J_cV (As := [.int h]) (st := []) (rc2 := (rmK 2).cells) (rs2 := (rmK 2).slots) C iX5_lost_2 lm_X5_83 yc_X5_hoursDark yv_X5_hoursDark c_X5_hoursDark (q0 := 0) rfl rfl rfl rfl ⟨by decide, by decide⟩ (Nat.le_of_ble_eq_true rfl) rfl rfl ?_
  rintro _ _ ⟨rfl, rfl⟩
  refine J_st (.int (stAt n h pD 0) :: []) rfl ?_
  refine J_cSp (As := [.int (stAt n h pD 0)]) (st := []) C iX5_lost_5 lm_X5_86 yc_J6_bitCount_0f7a4 ys_J6_bitCount_0f7a4 c_J6_bitCount_0f7a4 rfl ⟨by decide, by decide⟩ (Nat.le_of_ble_eq_true rfl) ⟨rfl, rfl⟩ ?_
  rintro _ rfl
  refine J_st (.int (bitC (stAt n h pD 0)) :: []) rfl ?_
  exact J_iret C E iX5_lost_8 ⟨rfl, rfl⟩

set_option maxRecDepth 100000 in
set_option maxHeartbeats 4000000 in
theorem c_X5_reach {Z : GZ} {l : Launch} {a : Nat → Nat} {n dg co li : Int32} {pP pH pF pT pS pD pC : Nat → Int32} {h : Int32} {hr : Int32}  : Ct Z l yX5_reach cX5_reach 4 (some .int) (rmK 2) [.ref (a 0), .int h, .int hr] (wSt Z a n dg co li pP pH pF pT pS pD pC) (fun v w => v = some (.int (wallF n pH pF pT h hr * stepsF hr / 2)) ∧ w = (wSt Z a n dg co li pP pH pF pT pS pD pC)) := by
  refine Ct.ofJ (own := RX5) (nm := "reach") (lv0 := [(0, .ref (a 0)), (1, .int h), (2, .int hr)]) (by decide) rfl rfl (Nat.le_of_ble_eq_true rfl) rfl (fun X hXl C E => ?_)
  subst hXl
  refine J_iload_n C iX5_reach_0 rfl rfl ?_
  refine J_bipush 6 C iX5_reach_1 rfl ?_
  refine J_icmplt 12 C iX5_reach_3 rfl (fun h3 => ?_) (fun h3 => ?_)
  · refine J_iconst 0 C iX5_reach_12 rfl ?_
    refine J_goto 23 C iX5_reach_13 rfl ?_
    refine J_istore_n [(3, .int 0), (0, .ref (a 0)), (1, .int h), (2, .int hr)] C iX5_reach_23 rfl (by decide) rfl ?_
    refine J_aload_n C iX5_reach_24 rfl rfl ?_
    refine J_iload_n C iX5_reach_25 rfl rfl ?_
    refine J_iload_n C iX5_reach_26 rfl rfl ?_
    refine J_cV (As := [.int h, .int hr]) (st := []) (rc2 := (rmK 2).cells) (rs2 := (rmK 2).slots) C iX5_reach_27 lm_X5_80 yc_X5_wallAt yv_X5_wallAt c_X5_wallAt (q0 := 0) rfl rfl rfl rfl ⟨by decide, by decide⟩ (Nat.le_of_ble_eq_true rfl) rfl rfl ?_
    rintro _ _ ⟨rfl, rfl⟩
    refine J_st (.int (wallF n pH pF pT h hr) :: []) rfl ?_
    refine J_iload_n C iX5_reach_30 rfl rfl ?_
    refine J_imul C iX5_reach_31 ?_
    refine J_iconst 2 C iX5_reach_32 rfl ?_
    refine J_idiv C iX5_reach_33 (by decide) ?_
    exact J_iret C E iX5_reach_34 ⟨by simp [stepsF, absI, h3, b2i], rfl⟩
  · refine J_iload_n C iX5_reach_6 rfl rfl ?_
    refine J_bipush 18 C iX5_reach_7 rfl ?_
    refine J_icmple 16 C iX5_reach_9 rfl (fun h9 => ?_) (fun h9 => ?_)
    · refine J_iload_n C iX5_reach_16 rfl rfl ?_
      refine J_bipush 12 C iX5_reach_17 rfl ?_
      refine J_isub C iX5_reach_19 ?_
      refine J_abs C iX5_reach_20 (tsg_in (i := 533) (by decide +kernel) rfl) ma_abs_1 ma_i ma_abs_2 (Nat.le_of_ble_eq_true rfl) (Nat.le_of_ble_eq_true rfl) ?_
      refine J_istore_n [(3, .int (if 0 ≤ hr - 12 then hr - 12 else 0 - (hr - 12))), (0, .ref (a 0)), (1, .int h), (2, .int hr)] C iX5_reach_23 rfl (by decide) rfl ?_
      refine J_aload_n C iX5_reach_24 rfl rfl ?_
      refine J_iload_n C iX5_reach_25 rfl rfl ?_
      refine J_iload_n C iX5_reach_26 rfl rfl ?_
      refine J_cV (As := [.int h, .int hr]) (st := []) (rc2 := (rmK 2).cells) (rs2 := (rmK 2).slots) C iX5_reach_27 lm_X5_80 yc_X5_wallAt yv_X5_wallAt c_X5_wallAt (q0 := 0) rfl rfl rfl rfl ⟨by decide, by decide⟩ (Nat.le_of_ble_eq_true rfl) rfl rfl ?_
      rintro _ _ ⟨rfl, rfl⟩
      refine J_st (.int (wallF n pH pF pT h hr) :: []) rfl ?_
      refine J_iload_n C iX5_reach_30 rfl rfl ?_
      refine J_imul C iX5_reach_31 ?_
      refine J_iconst 2 C iX5_reach_32 rfl ?_
      refine J_idiv C iX5_reach_33 (by decide) ?_
      exact J_iret C E iX5_reach_34 ⟨by simp [stepsF, absI, h3, h9, b2i], rfl⟩
    · refine J_iconst 0 C iX5_reach_12 rfl ?_
      refine J_goto 23 C iX5_reach_13 rfl ?_
      refine J_istore_n [(3, .int 0), (0, .ref (a 0)), (1, .int h), (2, .int hr)] C iX5_reach_23 rfl (by decide) rfl ?_
      refine J_aload_n C iX5_reach_24 rfl rfl ?_
      refine J_iload_n C iX5_reach_25 rfl rfl ?_
      refine J_iload_n C iX5_reach_26 rfl rfl ?_
      refine J_cV (As := [.int h, .int hr]) (st := []) (rc2 := (rmK 2).cells) (rs2 := (rmK 2).slots) C iX5_reach_27 lm_X5_80 yc_X5_wallAt yv_X5_wallAt c_X5_wallAt (q0 := 0) rfl rfl rfl rfl ⟨by decide, by decide⟩ (Nat.le_of_ble_eq_true rfl) rfl rfl ?_
      rintro _ _ ⟨rfl, rfl⟩
      refine J_st (.int (wallF n pH pF pT h hr) :: []) rfl ?_
      refine J_iload_n C iX5_reach_30 rfl rfl ?_
      refine J_imul C iX5_reach_31 ?_
      refine J_iconst 2 C iX5_reach_32 rfl ?_
      refine J_idiv C iX5_reach_33 (by decide) ?_
      exact J_iret C E iX5_reach_34 ⟨by simp [stepsF, absI, h3, h9, b2i], rfl⟩

