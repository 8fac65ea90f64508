set_option maxRecDepth 100000 in
set_option maxHeartbeats 4000000 in
theorem c_X3_fail {Z : GZ} {l : Launch} {p kk t b L : Nat → Nat} {m i s Lt tm : Nat} {b0 : Bool} {e a lc : Int32} {tb : Nat → Int32} {nm : Nat → Int64} {bP bH o g j l0 l1 l2 l3 l4 l5 : Nat → Int32} {kf : Nat → Option Nat} {sf : Nat → Int32} {vf : Nat → Int64} {y0 y1 y2 y3 y4 y5 : Int32} {tk : Nat → Nat} (hLt : Lt ≤ 400) (hkf : ∀ i, i ≤ Lt → kf i = some (zad Z (tk i))) (htk : ∀ i, tk i < 43) (hend : ∀ i, i ≤ Lt → tk i ≠ 41 → tk i ≠ 42 → i < Lt) (hi : i ≤ Lt) (hs : s ≤ 400) (hm : m ≤ 12)  : Ct Z l yX3_fail cX3_fail 1 none (rmK 0) [.ref (p 0)] (((wBk Z b L (nI m) lc (nI s) nm bP bH o g j l0 l1 l2 l3 l4 l5 ++ wPa Z p kk b (nI i) (sf i) (nw tk i b0) b0 e a y0 y1 y2 y3 y4 y5) ++ wTk Z kk t (nI (Lt + 1)) kf sf vf) ++ wTp Z t (nI tm) tb) (fun v w => ∃ i2 b2 e2 a2 s2 o2 g2 j2, failC sf (i, b0, e, a, s, o, g, j) = (i2, b2, e2, a2, s2, o2, g2, j2) ∧ i2 ≤ Lt ∧ s2 ≤ 400 ∧ v = none ∧ w = (((wBk Z b L (nI m) lc (nI s2) nm bP bH o2 g2 j2 l0 l1 l2 l3 l4 l5 ++ wPa Z p kk b (nI i2) (sf i2) (nw tk i2 b2) b2 e2 a2 y0 y1 y2 y3 y4 y5) ++ wTk Z kk t (nI (Lt + 1)) kf sf vf) ++ wTp Z t (nI tm) tb)) := by
  refine Ct.ofJ (own := RX3) (nm := "fail") (lv0 := [(0, .ref (p 0))]) (by decide) rfl rfl (Nat.le_of_ble_eq_true rfl) rfl (fun X hXl C E => ?_)
  subst hXl
  refine J_aload_n C iX3_fail_0 rfl rfl ?_
  refine J_get (.int (b2i b0)) 24 C iX3_fail_1 gf_X3_45 rfl rfl ?_
  cases b0
  · refine J_ifneb 32 C iX3_fail_4 rfl (fun h4 => absurd (h4.symm.trans rfl) (by decide)) (fun h4 => ?_)
    refine J_aload_n C iX3_fail_7 rfl rfl ?_
    refine J_iconst 1 C iX3_fail_8 rfl ?_
    refine J_put (((wBk Z b L (nI m) lc (nI s) nm bP bH o g j l0 l1 l2 l3 l4 l5 ++ wPa Z p kk b (nI i) (sf i) (nw tk i false) true e a y0 y1 y2 y3 y4 y5) ++ wTk Z kk t (nI (Lt + 1)) kf sf vf) ++ wTp Z t (nI tm) tb) 24 C iX3_fail_9 pf_X3_45 rfl rfl rfl (Nat.le_of_ble_eq_true rfl) rfl ?_
    refine J_aload_n C iX3_fail_12 rfl rfl ?_
    refine J_iconst 1 C iX3_fail_13 rfl ?_
    refine J_put (((wBk Z b L (nI m) lc (nI s) nm bP bH o g j l0 l1 l2 l3 l4 l5 ++ wPa Z p kk b (nI i) (sf i) (nw tk i false) true 1 a y0 y1 y2 y3 y4 y5) ++ wTk Z kk t (nI (Lt + 1)) kf sf vf) ++ wTp Z t (nI tm) tb) 24 C iX3_fail_14 pf_X3_64 rfl rfl rfl (Nat.le_of_ble_eq_true rfl) rfl ?_
    refine J_aload_n C iX3_fail_17 rfl rfl ?_
    refine J_aload_n C iX3_fail_18 rfl rfl ?_
    refine J_get (.int (sf i)) 24 C iX3_fail_19 gf_X3_57 rfl rfl ?_
    refine J_put (((wBk Z b L (nI m) lc (nI s) nm bP bH o g j l0 l1 l2 l3 l4 l5 ++ wPa Z p kk b (nI i) (sf i) (nw tk i false) true 1 (sf i) y0 y1 y2 y3 y4 y5) ++ wTk Z kk t (nI (Lt + 1)) kf sf vf) ++ wTp Z t (nI tm) tb) 24 C iX3_fail_22 pf_X3_67 rfl rfl rfl (Nat.le_of_ble_eq_true rfl) rfl ?_
    refine J_aload_n C iX3_fail_25 rfl rfl ?_
    refine J_getsK C iX3_fail_26 kf_X3_18 ?_
    refine J_put (((wBk Z b L (nI m) lc (nI s) nm bP bH o g j l0 l1 l2 l3 l4 l5 ++ wPa Z p kk b (nI i) (sf i) 42 true 1 (sf i) y0 y1 y2 y3 y4 y5) ++ wTk Z kk t (nI (Lt + 1)) kf sf vf) ++ wTp Z t (nI tm) tb) 24 C iX3_fail_29 pf_X3_24 rfl rfl rfl (Nat.le_of_ble_eq_true rfl) rfl ?_
    exact J_vret C E iX3_fail_32 ⟨i, true, 1, sf i, s, o, g, j, by simp [failC, h4], by omega, by omega, rfl, rfl⟩
  · refine J_ifneb 32 C iX3_fail_4 rfl (fun h4 => ?_) (fun h4 => absurd (h4.symm.trans rfl) (by decide))
    exact J_vret C E iX3_fail_32 ⟨i, true, e, a, s, o, g, j, by simp [failC, h4], by omega, by omega, rfl, rfl⟩

set_option maxRecDepth 100000 in
set_option maxHeartbeats 4000000 in
theorem c_X3_tell {Z : GZ} {l : Launch} {p kk t b L : Nat → Nat} {m i s Lt tm : Nat} {b0 : Bool} {e a lc : Int32} {tb : Nat → Int32} {nm : Nat → Int64} {bP bH o g j l0 l1 l2 l3 l4 l5 : Nat → Int32} {kf : Nat → Option Nat} {sf : Nat → Int32} {vf : Nat → Int64} {y0 y1 y2 y3 y4 y5 : Int32} {tk : Nat → Nat} {er wh : Int32} (hLt : Lt ≤ 400) (hkf : ∀ i, i ≤ Lt → kf i = some (zad Z (tk i))) (htk : ∀ i, tk i < 43) (hend : ∀ i, i ≤ Lt → tk i ≠ 41 → tk i ≠ 42 → i < Lt) (hi : i ≤ Lt) (hs : s ≤ 400) (hm : m ≤ 12)  : Ct Z l yX3_tell cX3_tell 3 none (rmK 0) [.ref (p 0), .int er, .int wh] (((wBk Z b L (nI m) lc (nI s) nm bP bH o g j l0 l1 l2 l3 l4 l5 ++ wPa Z p kk b (nI i) (sf i) (nw tk i b0) b0 e a y0 y1 y2 y3 y4 y5) ++ wTk Z kk t (nI (Lt + 1)) kf sf vf) ++ wTp Z t (nI tm) tb) (fun v w => ∃ i2 b2 e2 a2 s2 o2 g2 j2, tellC er wh (i, b0, e, a, s, o, g, j) = (i2, b2, e2, a2, s2, o2, g2, j2) ∧ i2 ≤ Lt ∧ s2 ≤ 400 ∧ v = none ∧ w = (((wBk Z b L (nI m) lc (nI s2) nm bP bH o2 g2 j2 l0 l1 l2 l3 l4 l5 ++ wPa Z p kk b (nI i2) (sf i2) (nw tk i2 b2) b2 e2 a2 y0 y1 y2 y3 y4 y5) ++ wTk Z kk t (nI (Lt + 1)) kf sf vf) ++ wTp Z t (nI tm) tb)) := by
  refine Ct.ofJ (own := RX3) (nm := "tell") (lv0 := [(0, .ref (p 0)), (1, .int er), (2, .int wh)]) (by decide) rfl rfl (Nat.le_of_ble_eq_true rfl) rfl (fun X hXl C E => ?_)
  subst hXl
  refine J_aload_n C iX3_tell_0 rfl rfl ?_
  refine J_get (.int e) 24 C iX3_tell_1 gf_X3_64 rfl rfl ?_
  refine J_ifne 17 C iX3_tell_4 rfl (fun h4 => ?_) (fun h4 => ?_)
  · exact J_vret C E iX3_tell_17 ⟨i, b0, e, a, s, o, g, j, by simp [tellC, h4], by omega, by omega, rfl, rfl⟩
  · refine J_aload_n C iX3_tell_7 rfl rfl ?_
    refine J_iload_n C iX3_tell_8 rfl rfl ?_
    refine J_put (((wBk Z b L (nI m) lc (nI s) nm bP bH o g j l0 l1 l2 l3 l4 l5 ++ wPa Z p kk b (nI i) (sf i) (nw tk i b0) b0 er a y0 y1 y2 y3 y4 y5) ++ wTk Z kk t (nI (Lt + 1)) kf sf vf) ++ wTp Z t (nI tm) tb) 24 C iX3_tell_9 pf_X3_64 rfl rfl rfl (Nat.le_of_ble_eq_true rfl) rfl ?_
    refine J_aload_n C iX3_tell_12 rfl rfl ?_
    refine J_iload_n C iX3_tell_13 rfl rfl ?_
    refine J_put (((wBk Z b L (nI m) lc (nI s) nm bP bH o g j l0 l1 l2 l3 l4 l5 ++ wPa Z p kk b (nI i) (sf i) (nw tk i b0) b0 er wh y0 y1 y2 y3 y4 y5) ++ wTk Z kk t (nI (Lt + 1)) kf sf vf) ++ wTp Z t (nI tm) tb) 24 C iX3_tell_14 pf_X3_67 rfl rfl rfl (Nat.le_of_ble_eq_true rfl) rfl ?_
    exact J_vret C E iX3_tell_17 ⟨i, b0, er, wh, s, o, g, j, by simp [tellC, h4], by omega, by omega, rfl, rfl⟩

set_option maxRecDepth 100000 in
set_option maxHeartbeats 4000000 in
theorem c_X3_take {Z : GZ} {l : Launch} {p kk t b L : Nat → Nat} {m i s Lt tm : Nat} {b0 : Bool} {e a lc : Int32} {tb : Nat → Int32} {nm : Nat → Int64} {bP bH o g j l0 l1 l2 l3 l4 l5 : Nat → Int32} {kf : Nat → Option Nat} {sf : Nat → Int32} {vf : Nat → Int64} {y0 y1 y2 y3 y4 y5 : Int32} {tk : Nat → Nat} {k : Nat} (hLt : Lt ≤ 400) (hkf : ∀ i, i ≤ Lt → kf i = some (zad Z (tk i))) (htk : ∀ i, tk i < 43) (hend : ∀ i, i ≤ Lt → tk i ≠ 41 → tk i ≠ 42 → i < Lt) (hi : i ≤ Lt) (hs : s ≤ 400) (hm : m ≤ 12) (hk43 : k < 43) (hk41 : k ≠ 41) (hk42 : k ≠ 42)  : Ct Z l yX3_take cX3_take 4 (some .long) (rmK 1) [.ref (p 0), .ref (zad Z k)] (((wBk Z b L (nI m) lc (nI s) nm bP bH o g j l0 l1 l2 l3 l4 l5 ++ wPa Z p kk b (nI i) (sf i) (nw tk i b0) b0 e a y0 y1 y2 y3 y4 y5) ++ wTk Z kk t (nI (Lt + 1)) kf sf vf) ++ wTp Z t (nI tm) tb) (fun v w => ∃ i2 b2 e2 a2 s2 o2 g2 j2, takeC tk sf k (i, b0, e, a, s, o, g, j) = (i2, b2, e2, a2, s2, o2, g2, j2) ∧ i2 ≤ Lt ∧ s2 ≤ 400 ∧ v = some (.long (valT tk vf k (i, b0, e, a, s, o, g, j))) ∧ w = (((wBk Z b L (nI m) lc (nI s2) nm bP bH o2 g2 j2 l0 l1 l2 l3 l4 l5 ++ wPa Z p kk b (nI i2) (sf i2) (nw tk i2 b2) b2 e2 a2 y0 y1 y2 y3 y4 y5) ++ wTk Z kk t (nI (Lt + 1)) kf sf vf) ++ wTp Z t (nI tm) tb)) := by
  refine Ct.ofJ (own := RX3) (nm := "take") (lv0 := [(0, .ref (p 0)), (1, .ref (zad Z k))]) (by decide) rfl rfl (Nat.le_of_ble_eq_true rfl) rfl (fun X hXl C E => ?_)
  subst hXl
  refine J_aload_n C iX3_take_0 rfl rfl ?_
  refine J_get (.int (b2i b0)) 24 C iX3_take_1 gf_X3_45 rfl rfl ?_
  cases b0
  · refine J_ifneb 25 C iX3_take_4 rfl (fun h4 => absurd (h4.symm.trans rfl) (by decide)) (fun h4 => ?_)
    refine J_aload_n C iX3_take_7 rfl rfl ?_
    refine J_get (.ref (zad Z (nw tk i false))) 24 C iX3_take_8 gf_X3_24 rfl rfl ?_
    refine J_aload_n C iX3_take_11 rfl rfl ?_
    by_cases hs12 : (nw tk i false) = k
    · refine J_acmpne 25 C iX3_take_12 rfl (fun h12 => absurd (congrArg (zad Z) hs12) h12) (fun h12 => ?_)
      refine J_aload_n C iX3_take_15 rfl rfl ?_
      refine J_get (.ref (zad Z (nw tk i false))) 24 C iX3_take_16 gf_X3_24 rfl rfl ?_
      refine J_getsK C iX3_take_19 kf_X3_18 ?_
      refine J_acmpne 31 C iX3_take_22 rfl (fun h22 => ?_) (fun h22 => absurd h22 (fun e9 => hk42 (hs12.symm.trans (zad_inj C (nw_lt htk _ _) (by decide) e9))))
      have hi1 : i < Lt := hend i hi (fun e9 => hk41 (hs12.symm.trans e9)) (fun e9 => hk42 (hs12.symm.trans e9))
      refine J_aload_n C iX3_take_31 rfl rfl ?_
      refine J_get (.ref (kk 0)) 24 C iX3_take_32 gf_X3_27 rfl rfl ?_
      refine J_aload_n C iX3_take_35 rfl rfl ?_
      refine J_get (.int (nI i)) 24 C iX3_take_36 gf_X3_49 rfl rfl ?_
      refine J_cVb (As := [.int (nI i)]) (st := []) (rc2 := (rmK 1).cells) (rs2 := (rmK 1).slots) (w0 := (wTk Z kk t (nI (Lt + 1)) kf sf vf ++ wTp Z t (nI tm) tb)) C iX3_take_39 lm_X3_300 yc_X7_valueAt yv_X7_valueAt (c_X7_valueAt (n := Lt + 1) (i := i) (by omega) (by omega)) (q0 := 0) rfl rfl rfl (wBk Z b L (nI m) lc (nI s) nm bP bH o g j l0 l1 l2 l3 l4 l5 ++ wPa Z p kk b (nI i) (sf i) (nw tk i false) false e a y0 y1 y2 y3 y4 y5) [] (by simp only [List.append_assoc, List.append_nil, List.nil_append]) rfl (rmK_le (by omega) (by decide)) (Nat.le_of_ble_eq_true rfl) rfl rfl ?_
      rintro _ _ ⟨rfl, rfl⟩
      refine J_st (.long (vf i) :: []) rfl ?_
      refine J_ws (((wBk Z b L (nI m) lc (nI s) nm bP bH o g j l0 l1 l2 l3 l4 l5 ++ wPa Z p kk b (nI i) (sf i) (nw tk i false) false e a y0 y1 y2 y3 y4 y5) ++ wTk Z kk t (nI (Lt + 1)) kf sf vf) ++ wTp Z t (nI tm) tb) (by simp only [List.append_assoc, List.append_nil, List.nil_append]) ?_
      refine J_lstore_n [(2, .long (vf i)), (0, .ref (p 0)), (1, .ref (zad Z k))] C iX3_take_42 rfl (by decide) rfl ?_
      refine J_aload_n C iX3_take_43 rfl rfl ?_
      refine J_dup C iX3_take_44 rfl ?_
      refine J_get (.int (nI i)) 24 C iX3_take_45 gf_X3_49 rfl rfl ?_
      refine J_iconst 1 C iX3_take_48 rfl ?_
      refine J_iadd C iX3_take_49 ?_
      rw [show (nI i) + 1 = nI (i + 1) from nI_add _ _]
      refine J_put (((wBk Z b L (nI m) lc (nI s) nm bP bH o g j l0 l1 l2 l3 l4 l5 ++ wPa Z p kk b (nI (i + 1)) (sf i) (nw tk i false) false e a y0 y1 y2 y3 y4 y5) ++ wTk Z kk t (nI (Lt + 1)) kf sf vf) ++ wTp Z t (nI tm) tb) 24 C iX3_take_50 pf_X3_49 rfl rfl rfl (Nat.le_of_ble_eq_true rfl) rfl ?_
      refine J_aload_n C iX3_take_53 rfl rfl ?_
      refine J_aload_n C iX3_take_54 rfl rfl ?_
      refine J_get (.ref (kk 0)) 24 C iX3_take_55 gf_X3_27 rfl rfl ?_
      refine J_aload_n C iX3_take_58 rfl rfl ?_
      refine J_get (.int (nI (i + 1))) 24 C iX3_take_59 gf_X3_49 rfl rfl ?_
      refine J_cVb (As := [.int (nI (i + 1))]) (st := .ref (p 0) :: []) (rc2 := (rmK 1).cells) (rs2 := (rmK 1).slots) (w0 := (wTk Z kk t (nI (Lt + 1)) kf sf vf ++ wTp Z t (nI tm) tb)) C iX3_take_62 lm_X3_53 yc_X7_startAt yv_X7_startAt (c_X7_startAt (n := Lt + 1) (i := (i + 1)) (by omega) (by omega)) (q0 := 0) rfl rfl rfl (wBk Z b L (nI m) lc (nI s) nm bP bH o g j l0 l1 l2 l3 l4 l5 ++ wPa Z p kk b (nI (i + 1)) (sf i) (nw tk i false) false e a y0 y1 y2 y3 y4 y5) [] (by simp only [List.append_assoc, List.append_nil, List.nil_append]) rfl (rmK_le (by omega) (by decide)) (Nat.le_of_ble_eq_true rfl) rfl rfl ?_
      rintro _ _ ⟨rfl, rfl⟩
      refine J_st (.int (sf (i + 1)) :: .ref (p 0) :: []) rfl ?_
      refine J_ws (((wBk Z b L (nI m) lc (nI s) nm bP bH o g j l0 l1 l2 l3 l4 l5 ++ wPa Z p kk b (nI (i + 1)) (sf i) (nw tk i false) false e a y0 y1 y2 y3 y4 y5) ++ wTk Z kk t (nI (Lt + 1)) kf sf vf) ++ wTp Z t (nI tm) tb) (by simp only [List.append_assoc, List.append_nil, List.nil_append]) ?_
      refine J_put (((wBk Z b L (nI m) lc (nI s) nm bP bH o g j l0 l1 l2 l3 l4 l5 ++ wPa Z p kk b (nI (i + 1)) (sf (i + 1)) (nw tk i false) false e a y0 y1 y2 y3 y4 y5) ++ wTk Z kk t (nI (Lt + 1)) kf sf vf) ++ wTp Z t (nI tm) tb) 24 C iX3_take_65 pf_X3_57 rfl rfl rfl (Nat.le_of_ble_eq_true rfl) rfl ?_
      refine J_aload_n C iX3_take_68 rfl rfl ?_
      refine J_aload_n C iX3_take_69 rfl rfl ?_
      refine J_get (.ref (kk 0)) 24 C iX3_take_70 gf_X3_27 rfl rfl ?_
      refine J_aload_n C iX3_take_73 rfl rfl ?_
      refine J_get (.int (nI (i + 1))) 24 C iX3_take_74 gf_X3_49 rfl rfl ?_
      refine J_cVb (As := [.int (nI (i + 1))]) (st := .ref (p 0) :: []) (rc2 := (rmK 1).cells) (rs2 := (rmK 1).slots) (w0 := (wTk Z kk t (nI (Lt + 1)) kf sf vf ++ wTp Z t (nI tm) tb)) C iX3_take_77 lm_X3_60 yc_X7_kindAt yv_X7_kindAt (c_X7_kindAt (n := Lt + 1) (i := (i + 1)) (κ := tk (i + 1)) (by omega) (by omega) (hkf _ (by omega))) (q0 := 0) rfl rfl rfl (wBk Z b L (nI m) lc (nI s) nm bP bH o g j l0 l1 l2 l3 l4 l5 ++ wPa Z p kk b (nI (i + 1)) (sf (i + 1)) (nw tk i false) false e a y0 y1 y2 y3 y4 y5) [] (by simp only [List.append_assoc, List.append_nil, List.nil_append]) rfl (rmK_le (by omega) (by decide)) (Nat.le_of_ble_eq_true rfl) rfl rfl ?_
      rintro _ _ ⟨rfl, rfl⟩
      refine J_st (.ref (zad Z (tk (i + 1))) :: .ref (p 0) :: []) rfl ?_
      refine J_ws (((wBk Z b L (nI m) lc (nI s) nm bP bH o g j l0 l1 l2 l3 l4 l5 ++ wPa Z p kk b (nI (i + 1)) (sf (i + 1)) (nw tk i false) false e a y0 y1 y2 y3 y4 y5) ++ wTk Z kk t (nI (Lt + 1)) kf sf vf) ++ wTp Z t (nI tm) tb) (by simp only [List.append_assoc, List.append_nil, List.nil_append]) ?_
      refine J_put (((wBk Z b L (nI m) lc (nI s) nm bP bH o g j l0 l1 l2 l3 l4 l5 ++ wPa Z p kk b (nI (i + 1)) (sf (i + 1)) (tk (i + 1)) false e a y0 y1 y2 y3 y4 y5) ++ wTk Z kk t (nI (Lt + 1)) kf sf vf) ++ wTp Z t (nI tm) tb) 24 C iX3_take_80 pf_X3_24 rfl rfl rfl (Nat.le_of_ble_eq_true rfl) rfl ?_
      refine J_lload_n C iX3_take_83 rfl rfl ?_
      exact J_lret C E iX3_take_84 ⟨(i + 1), false, e, a, s, o, g, j, by rw [takeC, if_pos hs12], by omega, by omega, by rw [valT, if_pos hs12], rfl⟩
    · refine J_acmpne 25 C iX3_take_12 rfl (fun h12 => ?_) (fun h12 => absurd h12 (fun e => hs12 (zad_inj C (nw_lt htk _ _) hk43 e)))
      have hng := hs12
      refine J_aload_n C iX3_take_25 rfl rfl ?_
      refine J_cV (As := []) (st := []) (rc2 := (rmK 1).cells) (rs2 := (rmK 1).slots) C iX3_take_26 lm_X3_228 yc_X3_fail yv_X3_fail (c_X3_fail (tk := tk) hLt hkf htk hend (by omega) (by omega) hm) (q0 := 24) rfl rfl rfl rfl (rmK_le (by omega) (by decide)) (Nat.le_of_ble_eq_true rfl) rfl rfl ?_
      rintro _ _ ⟨i10, b10, e10, a10, s10, o10, g10, j10, hR10, hli10, hls10, rfl, rfl⟩
      refine J_st ([]) rfl ?_
      refine J_lconst 0 C iX3_take_29 rfl ?_
      exact J_lret C E iX3_take_30 ⟨i10, b10, e10, a10, s10, o10, g10, j10, by rw [← hR10, takeC, failC, if_neg hng], by omega, by omega, by rw [valT, if_neg hng], rfl⟩
  · refine J_ifneb 25 C iX3_take_4 rfl (fun h4 => ?_) (fun h4 => absurd (h4.symm.trans rfl) (by decide))
    have hng : ¬ nw tk i true = k := fun e9 => hk42 (e9.symm.trans nw_t)
    refine J_aload_n C iX3_take_25 rfl rfl ?_
    refine J_cV (As := []) (st := []) (rc2 := (rmK 1).cells) (rs2 := (rmK 1).slots) C iX3_take_26 lm_X3_228 yc_X3_fail yv_X3_fail (c_X3_fail (tk := tk) hLt hkf htk hend (by omega) (by omega) hm) (q0 := 24) rfl rfl rfl rfl (rmK_le (by omega) (by decide)) (Nat.le_of_ble_eq_true rfl) rfl rfl ?_
    rintro _ _ ⟨i11, b11, e11, a11, s11, o11, g11, j11, hR11, hli11, hls11, rfl, rfl⟩
    refine J_st ([]) rfl ?_
    refine J_lconst 0 C iX3_take_29 rfl ?_
    exact J_lret C E iX3_take_30 ⟨i11, b11, e11, a11, s11, o11, g11, j11, by rw [← hR11, takeC, failC, if_neg hng], by omega, by omega, by rw [valT, if_neg hng], rfl⟩

set_option maxRecDepth 100000 in
set_option maxHeartbeats 4000000 in
theorem c_X3_knownHouse {Z : GZ} {l : Launch} {p kk t b L : Nat → Nat} {m i s Lt tm : Nat} {b0 : Bool} {e a lc : Int32} {tb : Nat → Int32} {nm : Nat → Int64} {bP bH o g j l0 l1 l2 l3 l4 l5 : Nat → Int32} {kf : Nat → Option Nat} {sf : Nat → Int32} {vf : Nat → Int64} {y0 y1 y2 y3 y4 y5 : Int32} {tk : Nat → Nat} (hLt : Lt ≤ 400) (hkf : ∀ i, i ≤ Lt → kf i = some (zad Z (tk i))) (htk : ∀ i, tk i < 43) (hend : ∀ i, i ≤ Lt → tk i ≠ 41 → tk i ≠ 42 → i < Lt) (hi : i ≤ Lt) (hs : s ≤ 400) (hm : m ≤ 12)  : Ct Z l yX3_knownHouse cX3_knownHouse 3 (some .int) (rmK 2) [.ref (p 0)] (((wBk Z b L (nI m) lc (nI s) nm bP bH o g j l0 l1 l2 l3 l4 l5 ++ wPa Z p kk b (nI i) (sf i) (nw tk i b0) b0 e a y0 y1 y2 y3 y4 y5) ++ wTk Z kk t (nI (Lt + 1)) kf sf vf) ++ wTp Z t (nI tm) tb) (fun v w => ∃ i2 b2 e2 a2 s2 o2 g2 j2, knwC tk sf vf nm m (i, b0, e, a, s, o, g, j) = (i2, b2, e2, a2, s2, o2, g2, j2) ∧ i2 ≤ Lt ∧ s2 ≤ 400 ∧ v = some (.int (hseC tk vf nm m (i, b0, e, a, s, o, g, j))) ∧ w = (((wBk Z b L (nI m) lc (nI s2) nm bP bH o2 g2 j2 l0 l1 l2 l3 l4 l5 ++ wPa Z p kk b (nI i2) (sf i2) (nw tk i2 b2) b2 e2 a2 y0 y1 y2 y3 y4 y5) ++ wTk Z kk t (nI (Lt + 1)) kf sf vf) ++ wTp Z t (nI tm) tb)) := by
  refine Ct.ofJ (own := RX3) (nm := "knownHouse") (lv0 := [(0, .ref (p 0))]) (by decide) rfl rfl (Nat.le_of_ble_eq_true rfl) rfl (fun X hXl C E => ?_)
  subst hXl
  refine J_aload_n C iX3_knownHouse_0 rfl rfl ?_
  refine J_get (.int (sf i)) 24 C iX3_knownHouse_1 gf_X3_57 rfl rfl ?_
  refine J_istore_n [(1, .int (sf i)), (0, .ref (p 0))] C iX3_knownHouse_4 rfl (by decide) rfl ?_
  refine J_aload_n C iX3_knownHouse_5 rfl rfl ?_
  refine J_get (.ref (b 0)) 24 C iX3_knownHouse_6 gf_X3_31 rfl rfl ?_
  refine J_aload_n C iX3_knownHouse_9 rfl rfl ?_
  refine J_getsK C iX3_knownHouse_10 kf_X3_89 ?_
  refine J_cV (As := [.ref (zad Z 39)]) (st := .ref (b 0) :: []) (rc2 := (rmK 2).cells) (rs2 := (rmK 2).slots) C iX3_knownHouse_13 lm_X3_85 yc_X3_take yv_X3_take (c_X3_take (k := 39) hLt hkf htk hend (by omega) (by omega) hm (by decide) (by decide) (by decide)) (q0 := 24) rfl rfl rfl rfl (rmK_le (by omega) (by decide)) (Nat.le_of_ble_eq_true rfl) rfl rfl ?_
  rintro _ _ ⟨i12, b12, e12, a12, s12, o12, g12, j12, hR12, hli12, hls12, rfl, rfl⟩
  refine J_st (.long (valT tk vf 39 (i, b0, e, a, s, o, g, j)) :: .ref (b 0) :: []) rfl ?_
  refine J_cVb (As := [.long (valT tk vf 39 (i, b0, e, a, s, o, g, j))]) (st := []) (rc2 := (rmK 2).cells) (rs2 := (rmK 2).slots) C iX3_knownHouse_16 lm_X3_92 yc_X0_houseNamed yv_X0_houseNamed (c_X0_houseNamed (m := m) hm) (q0 := 0) rfl rfl rfl [] ((wPa Z p kk b (nI i12) (sf i12) (nw tk i12 b12) b12 e12 a12 y0 y1 y2 y3 y4 y5 ++ wTk Z kk t (nI (Lt + 1)) kf sf vf) ++ wTp Z t (nI tm) tb) rfl rfl (rmK_le (by omega) (by decide)) (Nat.le_of_ble_eq_true rfl) rfl rfl ?_
  rintro _ _ ⟨rfl, rfl⟩
  refine J_st (.int (hseC tk vf nm m (i, b0, e, a, s, o, g, j)) :: []) rfl ?_
  refine J_ws (((wBk Z b L (nI m) lc (nI s12) nm bP bH o12 g12 j12 l0 l1 l2 l3 l4 l5 ++ wPa Z p kk b (nI i12) (sf i12) (nw tk i12 b12) b12 e12 a12 y0 y1 y2 y3 y4 y5) ++ wTk Z kk t (nI (Lt + 1)) kf sf vf) ++ wTp Z t (nI tm) tb) rfl ?_
  refine J_istore_n [(2, .int (hseC tk vf nm m (i, b0, e, a, s, o, g, j))), (1, .int (sf i)), (0, .ref (p 0))] C iX3_knownHouse_19 rfl (by decide) rfl ?_
  refine J_iload_n C iX3_knownHouse_20 rfl rfl ?_
  refine J_iconst (-1) C iX3_knownHouse_21 rfl ?_
  refine J_icmpne 31 C iX3_knownHouse_22 rfl (fun h22 => ?_) (fun h22 => ?_)
  · refine J_iload_n C iX3_knownHouse_31 rfl rfl ?_
    exact J_iret C E iX3_knownHouse_32 ⟨i12, b12, e12, a12, s12, o12, g12, j12, by rw [knwC, if_neg (show ¬ hseC tk vf nm m (i, b0, e, a, s, o, g, j) = -1 from h22), hR12], by omega, by omega, rfl, rfl⟩
  · refine J_aload_n C iX3_knownHouse_25 rfl rfl ?_
    refine J_iconst 3 C iX3_knownHouse_26 rfl ?_
    refine J_iload_n C iX3_knownHouse_27 rfl rfl ?_
    refine J_cV (As := [.int 3, .int (sf i)]) (st := []) (rc2 := (rmK 2).cells) (rs2 := (rmK 2).slots) C iX3_knownHouse_28 lm_X3_96 yc_X3_tell yv_X3_tell (c_X3_tell hLt hkf htk hend (by omega) (by omega) hm) (q0 := 24) rfl rfl rfl rfl (rmK_le (by omega) (by decide)) (Nat.le_of_ble_eq_true rfl) rfl rfl ?_
    rintro _ _ ⟨i13, b13, e13, a13, s13, o13, g13, j13, hR13, hli13, hls13, rfl, rfl⟩
    refine J_st ([]) rfl ?_
    refine J_iload_n C iX3_knownHouse_31 rfl rfl ?_
    exact J_iret C E iX3_knownHouse_32 ⟨i13, b13, e13, a13, s13, o13, g13, j13, by rw [knwC, if_pos (show hseC tk vf nm m (i, b0, e, a, s, o, g, j) = -1 from h22), hR12, hR13], by omega, by omega, rfl, rfl⟩

set_option maxRecDepth 100000 in
set_option maxHeartbeats 4000000 in
theorem c_X3_goesDeeper {Z : GZ} {l : Launch} {p kk t b L : Nat → Nat} {m i s Lt tm : Nat} {b0 : Bool} {e a lc : Int32} {tb : Nat → Int32} {nm : Nat → Int64} {bP bH o g j l0 l1 l2 l3 l4 l5 : Nat → Int32} {kf : Nat → Option Nat} {sf : Nat → Int32} {vf : Nat → Int64} {y0 y1 y2 y3 y4 y5 : Int32} {tk : Nat → Nat} {k d : Nat} (hLt : Lt ≤ 400) (hkf : ∀ i, i ≤ Lt → kf i = some (zad Z (tk i))) (htk : ∀ i, tk i < 43) (hend : ∀ i, i ≤ Lt → tk i ≠ 41 → tk i ≠ 42 → i < Lt) (hi : i ≤ Lt) (hs : s ≤ 400) (hm : m ≤ 12) (hk43 : k < 43) (hk41 : k ≠ 41) (hk42 : k ≠ 42) (hd : d ≤ 8)  : Ct Z l yX3_goesDeeper cX3_goesDeeper 3 (some .boolean) (rmK 2) [.ref (p 0), .ref (zad Z k), .int (nI d)] (((wBk Z b L (nI m) lc (nI s) nm bP bH o g j l0 l1 l2 l3 l4 l5 ++ wPa Z p kk b (nI i) (sf i) (nw tk i b0) b0 e a y0 y1 y2 y3 y4 y5) ++ wTk Z kk t (nI (Lt + 1)) kf sf vf) ++ wTp Z t (nI tm) tb) (fun v w => ∃ i2 b2 e2 a2 s2 o2 g2 j2, deepC tk sf k d (i, b0, e, a, s, o, g, j) = (i2, b2, e2, a2, s2, o2, g2, j2) ∧ i2 ≤ Lt ∧ s2 ≤ 400 ∧ v = some (.int (b2i (!b2))) ∧ w = (((wBk Z b L (nI m) lc (nI s2) nm bP bH o2 g2 j2 l0 l1 l2 l3 l4 l5 ++ wPa Z p kk b (nI i2) (sf i2) (nw tk i2 b2) b2 e2 a2 y0 y1 y2 y3 y4 y5) ++ wTk Z kk t (nI (Lt + 1)) kf sf vf) ++ wTp Z t (nI tm) tb)) := by
  refine Ct.ofJ (own := RX3) (nm := "goesDeeper") (lv0 := [(0, .ref (p 0)), (1, .ref (zad Z k)), (2, .int (nI d))]) (by decide) rfl rfl (Nat.le_of_ble_eq_true rfl) rfl (fun X hXl C E => ?_)
  subst hXl
  refine J_iload_n C iX3_goesDeeper_0 rfl rfl ?_
  refine J_bipush 8 C iX3_goesDeeper_1 rfl ?_
  by_cases hs3 : d < 8
  · refine J_icmplt 13 C iX3_goesDeeper_3 rfl (fun h3 => ?_) (fun h3 => absurd (nI_lt (a := d) (b := 8) (by omega) (by omega)) h3)
    refine J_aload_n C iX3_goesDeeper_13 rfl rfl ?_
    refine J_aload_n C iX3_goesDeeper_14 rfl rfl ?_
    refine J_cV (As := [.ref (zad Z k)]) (st := []) (rc2 := (rmK 2).cells) (rs2 := (rmK 2).slots) C iX3_goesDeeper_15 lm_X3_85 yc_X3_take yv_X3_take (c_X3_take (k := k) hLt hkf htk hend (by omega) (by omega) hm hk43 (by first | decide | omega) (by first | decide | omega)) (q0 := 24) rfl rfl rfl rfl (rmK_le (by omega) (by decide)) (Nat.le_of_ble_eq_true rfl) rfl rfl ?_
    rintro _ _ ⟨i14, b14, e14, a14, s14, o14, g14, j14, hR14, hli14, hls14, rfl, rfl⟩
    refine J_st (.long (valT tk vf k (i, b0, e, a, s, o, g, j)) :: []) rfl ?_
    refine J_pop2 C iX3_goesDeeper_18 rfl ?_
    refine J_aload_n C iX3_goesDeeper_19 rfl rfl ?_
    refine J_get (.int (b2i b14)) 24 C iX3_goesDeeper_20 gf_X3_45 rfl rfl ?_
    refine J_ifneb 30 C iX3_goesDeeper_23 rfl (fun h23 => ?_) (fun h23 => ?_)
    · refine J_iconst 0 C iX3_goesDeeper_30 rfl ?_
      exact J_zret C E iX3_goesDeeper_31 rfl ⟨i14, b14, e14, a14, s14, o14, g14, j14, by rw [deepC, if_pos hs3, hR14], by omega, by omega, by simp [b2i, h23], rfl⟩
    · refine J_iconst 1 C iX3_goesDeeper_26 rfl ?_
      refine J_goto 31 C iX3_goesDeeper_27 rfl ?_
      exact J_zret C E iX3_goesDeeper_31 rfl ⟨i14, b14, e14, a14, s14, o14, g14, j14, by rw [deepC, if_pos hs3, hR14], by omega, by omega, by simp [b2i, h23], rfl⟩
  · refine J_icmplt 13 C iX3_goesDeeper_3 rfl (fun h3 => absurd h3 (nI_nlt (a := d) (b := 8) (by omega) (by omega))) (fun h3 => ?_)
    refine J_aload_n C iX3_goesDeeper_6 rfl rfl ?_
    refine J_cV (As := []) (st := []) (rc2 := (rmK 2).cells) (rs2 := (rmK 2).slots) C iX3_goesDeeper_7 lm_X3_228 yc_X3_fail yv_X3_fail (c_X3_fail (tk := tk) hLt hkf htk hend (by omega) (by omega) hm) (q0 := 24) rfl rfl rfl rfl (rmK_le (by omega) (by decide)) (Nat.le_of_ble_eq_true rfl) rfl rfl ?_
    rintro _ _ ⟨i15, b15, e15, a15, s15, o15, g15, j15, hR15, hli15, hls15, rfl, rfl⟩
    refine J_st ([]) rfl ?_
    refine J_goto 19 C iX3_goesDeeper_10 rfl ?_
    refine J_aload_n C iX3_goesDeeper_19 rfl rfl ?_
    refine J_get (.int (b2i b15)) 24 C iX3_goesDeeper_20 gf_X3_45 rfl rfl ?_
    refine J_ifneb 30 C iX3_goesDeeper_23 rfl (fun h23 => ?_) (fun h23 => ?_)
    · refine J_iconst 0 C iX3_goesDeeper_30 rfl ?_
      exact J_zret C E iX3_goesDeeper_31 rfl ⟨i15, b15, e15, a15, s15, o15, g15, j15, by rw [deepC, if_neg hs3, hR15], by omega, by omega, by simp [b2i, h23], rfl⟩
    · refine J_iconst 1 C iX3_goesDeeper_26 rfl ?_
      refine J_goto 31 C iX3_goesDeeper_27 rfl ?_
      exact J_zret C E iX3_goesDeeper_31 rfl ⟨i15, b15, e15, a15, s15, o15, g15, j15, by rw [deepC, if_neg hs3, hR15], by omega, by omega, by simp [b2i, h23], rfl⟩

set_option maxRecDepth 100000 in
set_option maxHeartbeats 4000000 in
theorem c_X3_comparisonOp {Z : GZ} {l : Launch} {k : Nat} (hk43 : k < 43)  : Ct Z l yX3_comparisonOp cX3_comparisonOp 1 (some .int) (rmK 0) [.ref (zad Z k)] [] (fun v w => v = some (.int (cmpK k)) ∧ w = []) := by
  refine Ct.ofJ (own := RX3) (nm := "comparisonOp") (lv0 := [(0, .ref (zad Z k))]) (by decide) rfl rfl (Nat.le_of_ble_eq_true rfl) rfl (fun X hXl C E => ?_)
  subst hXl
  refine J_aload_n C iX3_comparisonOp_0 rfl rfl ?_
  refine J_getsK C iX3_comparisonOp_1 kf_X3_231 ?_
  by_cases hs4 : k = 34
  · refine J_acmpne 10 C iX3_comparisonOp_4 rfl (fun h4 => absurd (congrArg (zad Z) hs4) h4) (fun h4 => ?_)
    refine J_bipush 16 C iX3_comparisonOp_7 rfl ?_
    exact J_iret C E iX3_comparisonOp_9 ⟨by simp [cmpK, hs4, h4], rfl⟩
  · refine J_acmpne 10 C iX3_comparisonOp_4 rfl (fun h4 => ?_) (fun h4 => absurd h4 (fun e => hs4 (zad_inj C hk43 (by decide) e)))
    refine J_aload_n C iX3_comparisonOp_10 rfl rfl ?_
    refine J_getsK C iX3_comparisonOp_11 kf_X3_234 ?_
    by_cases hs14 : k = 35
    · refine J_acmpne 20 C iX3_comparisonOp_14 rfl (fun h14 => absurd (congrArg (zad Z) hs14) h14) (fun h14 => ?_)
      refine J_bipush 17 C iX3_comparisonOp_17 rfl ?_
      exact J_iret C E iX3_comparisonOp_19 ⟨by simp [cmpK, hs4, h4, hs14, h14], rfl⟩
    · refine J_acmpne 20 C iX3_comparisonOp_14 rfl (fun h14 => ?_) (fun h14 => absurd h14 (fun e => hs14 (zad_inj C hk43 (by decide) e)))
      refine J_aload_n C iX3_comparisonOp_20 rfl rfl ?_
      refine J_getsK C iX3_comparisonOp_21 kf_X3_237 ?_
      by_cases hs24 : k = 36
      · refine J_acmpne 30 C iX3_comparisonOp_24 rfl (fun h24 => absurd (congrArg (zad Z) hs24) h24) (fun h24 => ?_)
        refine J_bipush 18 C iX3_comparisonOp_27 rfl ?_
        exact J_iret C E iX3_comparisonOp_29 ⟨by simp [cmpK, hs4, h4, hs14, h14, hs24, h24], rfl⟩
      · refine J_acmpne 30 C iX3_comparisonOp_24 rfl (fun h24 => ?_) (fun h24 => absurd h24 (fun e => hs24 (zad_inj C hk43 (by decide) e)))
        refine J_aload_n C iX3_comparisonOp_30 rfl rfl ?_
        refine J_getsK C iX3_comparisonOp_31 kf_X3_240 ?_
        by_cases hs34 : k = 37
        · refine J_acmpne 40 C iX3_comparisonOp_34 rfl (fun h34 => absurd (congrArg (zad Z) hs34) h34) (fun h34 => ?_)
          refine J_bipush 19 C iX3_comparisonOp_37 rfl ?_
          exact J_iret C E iX3_comparisonOp_39 ⟨by simp [cmpK, hs4, h4, hs14, h14, hs24, h24, hs34, h34], rfl⟩
        · refine J_acmpne 40 C iX3_comparisonOp_34 rfl (fun h34 => ?_) (fun h34 => absurd h34 (fun e => hs34 (zad_inj C hk43 (by decide) e)))
          refine J_aload_n C iX3_comparisonOp_40 rfl rfl ?_
          refine J_getsK C iX3_comparisonOp_41 kf_X3_243 ?_
          by_cases hs44 : k = 38
          · refine J_acmpne 52 C iX3_comparisonOp_44 rfl (fun h44 => absurd (congrArg (zad Z) hs44) h44) (fun h44 => ?_)
            refine J_bipush 20 C iX3_comparisonOp_47 rfl ?_
            refine J_goto 53 C iX3_comparisonOp_49 rfl ?_
            exact J_iret C E iX3_comparisonOp_53 ⟨by simp [cmpK, hs4, h4, hs14, h14, hs24, h24, hs34, h34, hs44, h44], rfl⟩
          · refine J_acmpne 52 C iX3_comparisonOp_44 rfl (fun h44 => ?_) (fun h44 => absurd h44 (fun e => hs44 (zad_inj C hk43 (by decide) e)))
            refine J_iconst (-1) C iX3_comparisonOp_52 rfl ?_
            exact J_iret C E iX3_comparisonOp_53 ⟨by simp [cmpK, hs4, h4, hs14, h14, hs24, h24, hs34, h34, hs44, h44], rfl⟩

