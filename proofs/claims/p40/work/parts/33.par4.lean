theorem c_sum0 {Z : GZ} {l : Launch} {p kk t b L : Nat → Nat} {m i s Lt tm : Nat} {b0 : Bool} {e a lc : Int32} {tb : Nat → Int32} {nm : Nat → Int64} {bP bH o g j l0 l1 l2 l3 l4 l5 : Nat → Int32} {kf : Nat → Option Nat} {sf : Nat → Int32} {vf : Nat → Int64} {y0 y1 y2 y3 y4 y5 : Int32} {tk : Nat → Nat} (hLt : Lt ≤ 400) (hkf : ∀ i, i ≤ Lt → kf i = some (zad Z (tk i))) (htk : ∀ i, tk i < 43) (hend : ∀ i, i ≤ Lt → tk i ≠ 41 → tk i ≠ 42 → i < Lt) (hi : i ≤ Lt) (hs : s ≤ 400) (hm : m ≤ 12) : Ct Z l yX3_sum cX3_sum 4 none (rmK 38) [.ref (p 0), .int 0] (((wBk Z b L (nI m) lc (nI s) nm bP bH o g j l0 l1 l2 l3 l4 l5 ++ wPa Z p kk b (nI i) (sf i) (nw tk i b0) b0 e a y0 y1 y2 y3 y4 y5) ++ wTk Z kk t (nI (Lt + 1)) kf sf vf) ++ wTp Z t (nI tm) tb) (fun v w => ∃ i2 b2 e2 a2 s2 o2 g2 j2, sumC tk sf (valC tk sf vf nm m 8 0) (i, b0, e, a, s, o, g, j) = (i2, b2, e2, a2, s2, o2, g2, j2) ∧ i2 ≤ Lt ∧ s2 ≤ 400 ∧ v = none ∧ w = (((wBk Z b L (nI m) lc (nI s2) nm bP bH o2 g2 j2 l0 l1 l2 l3 l4 l5 ++ wPa Z p kk b (nI i2) (sf i2) (nw tk i2 b2) b2 e2 a2 y0 y1 y2 y3 y4 y5) ++ wTk Z kk t (nI (Lt + 1)) kf sf vf) ++ wTp Z t (nI tm) tb)) := (c_vals hLt hkf htk hend hm 8 0 rfl).2.2 hi hs
theorem c_test0 {Z : GZ} {l : Launch} {p kk t b L : Nat → Nat} {m i s Lt tm : Nat} {b0 : Bool} {e a lc : Int32} {tb : Nat → Int32} {nm : Nat → Int64} {bP bH o g j l0 l1 l2 l3 l4 l5 : Nat → Int32} {kf : Nat → Option Nat} {sf : Nat → Int32} {vf : Nat → Int64} {y0 y1 y2 y3 y4 y5 : Int32} {tk : Nat → Nat} (hLt : Lt ≤ 400) (hkf : ∀ i, i ≤ Lt → kf i = some (zad Z (tk i))) (htk : ∀ i, tk i < 43) (hend : ∀ i, i ≤ Lt → tk i ≠ 41 → tk i ≠ 42 → i < Lt) (hi : i ≤ Lt) (hs : s ≤ 400) (hm : m ≤ 12) : Ct Z l yX3_test cX3_test 3 none (rmK 42) [.ref (p 0), .int 0] (((wBk Z b L (nI m) lc (nI s) nm bP bH o g j l0 l1 l2 l3 l4 l5 ++ wPa Z p kk b (nI i) (sf i) (nw tk i b0) b0 e a y0 y1 y2 y3 y4 y5) ++ wTk Z kk t (nI (Lt + 1)) kf sf vf) ++ wTp Z t (nI tm) tb) (fun v w => ∃ i2 b2 e2 a2 s2 o2 g2 j2, testC tk sf (sglC tk sf vf nm m 8 0) (i, b0, e, a, s, o, g, j) = (i2, b2, e2, a2, s2, o2, g2, j2) ∧ i2 ≤ Lt ∧ s2 ≤ 400 ∧ v = none ∧ w = (((wBk Z b L (nI m) lc (nI s2) nm bP bH o2 g2 j2 l0 l1 l2 l3 l4 l5 ++ wPa Z p kk b (nI i2) (sf i2) (nw tk i2 b2) b2 e2 a2 y0 y1 y2 y3 y4 y5) ++ wTk Z kk t (nI (Lt + 1)) kf sf vf) ++ wTp Z t (nI tm) tb)) := (c_sgls hLt hkf htk hend hm 8 0 rfl).2 hi hs
set_option maxRecDepth 100000 in
set_option maxHeartbeats 4000000 in
theorem c_X3_order {Z : GZ} {l : Launch} {p kk t b L : Nat → Nat} {m i s Lt tm : Nat} {b0 : Bool} {e a lc : Int32} {tb : Nat → Int32} {nm : Nat → Int64} {bP bH o g j l0 l1 l2 l3 l4 l5 : Nat → Int32} {kf : Nat → Option Nat} {sf : Nat → Int32} {vf : Nat → Int64} {y0 y1 y2 y3 y4 y5 : Int32} {tk : Nat → Nat} (hLt : Lt ≤ 400) (hkf : ∀ i, i ≤ Lt → kf i = some (zad Z (tk i))) (htk : ∀ i, tk i < 43) (hend : ∀ i, i ≤ Lt → tk i ≠ 41 → tk i ≠ 42 → i < Lt) (hi : i ≤ Lt) (hs : s ≤ 400) (hm : m ≤ 12)  : Ct Z l yX3_order cX3_order 1 none (rmK 39) [.ref (p 0)] (((wBk Z b L (nI m) lc (nI s) nm bP bH o g j l0 l1 l2 l3 l4 l5 ++ wPa Z p kk b (nI i) (sf i) (nw tk i b0) b0 e a y0 y1 y2 y3 y4 y5) ++ wTk Z kk t (nI (Lt + 1)) kf sf vf) ++ wTp Z t (nI tm) tb) (fun v w => ∃ i2 b2 e2 a2 s2 o2 g2 j2 z0 z1 z2 z3, ordC tk sf vf nm m (i, b0, e, a, s, o, g, j) = ((i2, b2, e2, a2, s2, o2, g2, j2), z0, z1, z2, z3) ∧ i2 ≤ Lt ∧ s2 ≤ 400 ∧ v = none ∧ w = (((wBk Z b L (nI m) lc (nI s2) nm bP bH o2 g2 j2 l0 l1 l2 l3 l4 l5 ++ wPa Z p kk b (nI i2) (sf i2) (nw tk i2 b2) b2 e2 a2 z0 z1 z2 z3 y4 y5) ++ wTk Z kk t (nI (Lt + 1)) kf sf vf) ++ wTp Z t (nI tm) tb)) := by
  refine Ct.ofJ (own := RX3) (nm := "order") (lv0 := [(0, .ref (p 0))]) (by decide) rfl rfl (Nat.le_of_ble_eq_true rfl) rfl (fun X hXl C E => ?_)
  subst hXl
  refine J_aload_n C iX3_order_0 rfl rfl ?_
  refine J_get (.ref (p 1)) 24 C iX3_order_1 gf_X3_12 rfl rfl ?_
  refine J_aload_n C iX3_order_4 rfl rfl ?_
  refine J_get (.ref (b 0)) 24 C iX3_order_5 gf_X3_31 rfl rfl ?_
  refine J_get (.int (nI s)) 0 C iX3_order_8 gf_X3_133 rfl rfl ?_
  refine J_put (((wBk Z b L (nI m) lc (nI s) nm bP bH o g j l0 l1 l2 l3 l4 l5 ++ wPa Z p kk b (nI i) (sf i) (nw tk i b0) b0 e a y0 y1 (nI s) y3 y4 y5) ++ wTk Z kk t (nI (Lt + 1)) kf sf vf) ++ wTp Z t (nI tm) tb) 25 C iX3_order_11 pf_X3_153 rfl rfl rfl (Nat.le_of_ble_eq_true rfl) rfl ?_
  refine J_aload_n C iX3_order_14 rfl rfl ?_
  refine J_get (.ref (p 1)) 24 C iX3_order_15 gf_X3_12 rfl rfl ?_
  refine J_aload_n C iX3_order_18 rfl rfl ?_
  refine J_get (.ref (b 0)) 24 C iX3_order_19 gf_X3_31 rfl rfl ?_
  refine J_get (.int (nI s)) 0 C iX3_order_22 gf_X3_133 rfl rfl ?_
  refine J_put (((wBk Z b L (nI m) lc (nI s) nm bP bH o g j l0 l1 l2 l3 l4 l5 ++ wPa Z p kk b (nI i) (sf i) (nw tk i b0) b0 e a y0 y1 (nI s) (nI s) y4 y5) ++ wTk Z kk t (nI (Lt + 1)) kf sf vf) ++ wTp Z t (nI tm) tb) 25 C iX3_order_25 pf_X3_156 rfl rfl rfl (Nat.le_of_ble_eq_true rfl) rfl ?_
  refine J_aload_n C iX3_order_28 rfl rfl ?_
  refine J_get (.ref (zad Z (nw tk i b0))) 24 C iX3_order_29 gf_X3_24 rfl rfl ?_
  refine J_getsK C iX3_order_32 kf_X3_159 ?_
  by_cases hs35 : (nw tk i b0) = 4
  · refine J_acmpne 108 C iX3_order_35 rfl (fun h35 => absurd (congrArg (zad Z) hs35) h35) (fun h35 => ?_)
    refine J_aload_n C iX3_order_38 rfl rfl ?_
    refine J_get (.ref (p 1)) 24 C iX3_order_39 gf_X3_12 rfl rfl ?_
    refine J_iconst 0 C iX3_order_42 rfl ?_
    refine J_put (((wBk Z b L (nI m) lc (nI s) nm bP bH o g j l0 l1 l2 l3 l4 l5 ++ wPa Z p kk b (nI i) (sf i) (nw tk i b0) b0 e a 0 y1 (nI s) (nI s) y4 y5) ++ wTk Z kk t (nI (Lt + 1)) kf sf vf) ++ wTp Z t (nI tm) tb) 25 C iX3_order_43 pf_X3_162 rfl rfl rfl (Nat.le_of_ble_eq_true rfl) rfl ?_
    refine J_aload_n C iX3_order_46 rfl rfl ?_
    refine J_getsK C iX3_order_47 kf_X3_159 ?_
    refine J_cV (As := [.ref (zad Z 4)]) (st := []) (rc2 := (rmK 39).cells) (rs2 := (rmK 39).slots) C iX3_order_50 lm_X3_85 yc_X3_take yv_X3_take (c_X3_take (k := 4) hLt hkf htk hend (by omega) (by omega) hm (by decide) (by decide) (by decide)) (q0 := 24) rfl rfl rfl rfl (rmK_le (by omega) (by decide)) (Nat.le_of_ble_eq_true rfl) rfl rfl ?_
    rintro _ _ ⟨i101, b101, e101, a101, s101, o101, g101, j101, hR101, hli101, hls101, rfl, rfl⟩
    refine J_st (.long (valT tk vf 4 (i, b0, e, a, s, o, g, j)) :: []) rfl ?_
    refine J_pop2 C iX3_order_53 rfl ?_
    refine J_aload_n C iX3_order_54 rfl rfl ?_
    refine J_get (.ref (p 1)) 24 C iX3_order_55 gf_X3_12 rfl rfl ?_
    refine J_aload_n C iX3_order_58 rfl rfl ?_
    refine J_cV (As := []) (st := .ref (p 1) :: []) (rc2 := (rmK 39).cells) (rs2 := (rmK 39).slots) C iX3_order_59 lm_X3_164 yc_X3_knownHouse yv_X3_knownHouse (c_X3_knownHouse hLt hkf htk hend (by omega) (by omega) hm) (q0 := 24) rfl rfl rfl rfl (rmK_le (by omega) (by decide)) (Nat.le_of_ble_eq_true rfl) rfl rfl ?_
    rintro _ _ ⟨i102, b102, e102, a102, s102, o102, g102, j102, hR102, hli102, hls102, rfl, rfl⟩
    refine J_st (.int (hseC tk vf nm m (i101, b101, e101, a101, s101, o101, g101, j101)) :: .ref (p 1) :: []) rfl ?_
    refine J_put (((wBk Z b L (nI m) lc (nI s102) nm bP bH o102 g102 j102 l0 l1 l2 l3 l4 l5 ++ wPa Z p kk b (nI i102) (sf i102) (nw tk i102 b102) b102 e102 a102 0 (hseC tk vf nm m (i101, b101, e101, a101, s101, o101, g101, j101)) (nI s) (nI s) y4 y5) ++ wTk Z kk t (nI (Lt + 1)) kf sf vf) ++ wTp Z t (nI tm) tb) 25 C iX3_order_62 pf_X3_168 rfl rfl rfl (Nat.le_of_ble_eq_true rfl) rfl ?_
    refine J_aload_n C iX3_order_65 rfl rfl ?_
    refine J_getsK C iX3_order_66 kf_X3_171 ?_
    refine J_cV (As := [.ref (zad Z 5)]) (st := []) (rc2 := (rmK 39).cells) (rs2 := (rmK 39).slots) C iX3_order_69 lm_X3_85 yc_X3_take yv_X3_take (c_X3_take (k := 5) hLt hkf htk hend (by omega) (by omega) hm (by decide) (by decide) (by decide)) (q0 := 24) rfl rfl rfl rfl (rmK_le (by omega) (by decide)) (Nat.le_of_ble_eq_true rfl) rfl rfl ?_
    rintro _ _ ⟨i103, b103, e103, a103, s103, o103, g103, j103, hR103, hli103, hls103, rfl, rfl⟩
    refine J_st (.long (valT tk vf 5 (i102, b102, e102, a102, s102, o102, g102, j102)) :: []) rfl ?_
    refine J_pop2 C iX3_order_72 rfl ?_
    refine J_aload_n C iX3_order_73 rfl rfl ?_
    refine J_iconst 0 C iX3_order_74 rfl ?_
    refine J_cV (As := [.int 0]) (st := []) (rc2 := (rmK 39).cells) (rs2 := (rmK 39).slots) C iX3_order_75 lm_X3_174 yc_X3_sum yv_X3_sum (c_sum0 hLt hkf htk hend (by omega) (by omega) hm) (q0 := 24) rfl rfl rfl rfl (rmK_le (by omega) (by decide)) (Nat.le_of_ble_eq_true rfl) rfl rfl ?_
    rintro _ _ ⟨i104, b104, e104, a104, s104, o104, g104, j104, hR104, hli104, hls104, rfl, rfl⟩
    refine J_st ([]) rfl ?_
    refine J_aload_n C iX3_order_78 rfl rfl ?_
    refine J_get (.ref (p 1)) 24 C iX3_order_79 gf_X3_12 rfl rfl ?_
    refine J_aload_n C iX3_order_82 rfl rfl ?_
    refine J_get (.ref (b 0)) 24 C iX3_order_83 gf_X3_31 rfl rfl ?_
    refine J_get (.int (nI s104)) 0 C iX3_order_86 gf_X3_133 rfl rfl ?_
    refine J_put (((wBk Z b L (nI m) lc (nI s104) nm bP bH o104 g104 j104 l0 l1 l2 l3 l4 l5 ++ wPa Z p kk b (nI i104) (sf i104) (nw tk i104 b104) b104 e104 a104 0 (hseC tk vf nm m (i101, b101, e101, a101, s101, o101, g101, j101)) (nI s) (nI s104) y4 y5) ++ wTk Z kk t (nI (Lt + 1)) kf sf vf) ++ wTp Z t (nI tm) tb) 25 C iX3_order_89 pf_X3_156 rfl rfl rfl (Nat.le_of_ble_eq_true rfl) rfl ?_
    refine J_aload_n C iX3_order_92 rfl rfl ?_
    refine J_getsK C iX3_order_93 kf_X3_177 ?_
    refine J_cV (As := [.ref (zad Z 6)]) (st := []) (rc2 := (rmK 39).cells) (rs2 := (rmK 39).slots) C iX3_order_96 lm_X3_85 yc_X3_take yv_X3_take (c_X3_take (k := 6) hLt hkf htk hend (by omega) (by omega) hm (by decide) (by decide) (by decide)) (q0 := 24) rfl rfl rfl rfl (rmK_le (by omega) (by decide)) (Nat.le_of_ble_eq_true rfl) rfl rfl ?_
    rintro _ _ ⟨i105, b105, e105, a105, s105, o105, g105, j105, hR105, hli105, hls105, rfl, rfl⟩
    refine J_st (.long (valT tk vf 6 (i104, b104, e104, a104, s104, o104, g104, j104)) :: []) rfl ?_
    refine J_pop2 C iX3_order_99 rfl ?_
    refine J_aload_n C iX3_order_100 rfl rfl ?_
    refine J_iconst 0 C iX3_order_101 rfl ?_
    refine J_cV (As := [.int 0]) (st := []) (rc2 := (rmK 39).cells) (rs2 := (rmK 39).slots) C iX3_order_102 lm_X3_174 yc_X3_sum yv_X3_sum (c_sum0 hLt hkf htk hend (by omega) (by omega) hm) (q0 := 24) rfl rfl rfl rfl (rmK_le (by omega) (by decide)) (Nat.le_of_ble_eq_true rfl) rfl rfl ?_
    rintro _ _ ⟨i106, b106, e106, a106, s106, o106, g106, j106, hR106, hli106, hls106, rfl, rfl⟩
    refine J_st ([]) rfl ?_
    refine J_goto 202 C iX3_order_105 rfl ?_
    exact J_vret C E iX3_order_202 ⟨i106, b106, e106, a106, s106, o106, g106, j106, 0, hseC tk vf nm m (i101, b101, e101, a101, s101, o101, g101, j101), nI s, nI s104, by rw [ordC, if_pos (show nowC tk (i, b0, e, a, s, o, g, j) = 4 from hs35), hR101, hR102, hR103, hR104, hR105, hR106]; rfl, by omega, by omega, rfl, rfl⟩
  · refine J_acmpne 108 C iX3_order_35 rfl (fun h35 => ?_) (fun h35 => absurd h35 (fun e => hs35 (zad_inj C (nw_lt htk _ _) (by decide) e)))
    refine J_aload_n C iX3_order_108 rfl rfl ?_
    refine J_get (.ref (zad Z (nw tk i b0))) 24 C iX3_order_109 gf_X3_24 rfl rfl ?_
    refine J_getsK C iX3_order_112 kf_X3_180 ?_
    by_cases hs115 : (nw tk i b0) = 7
    · refine J_acmpne 148 C iX3_order_115 rfl (fun h115 => absurd (congrArg (zad Z) hs115) h115) (fun h115 => ?_)
      refine J_aload_n C iX3_order_118 rfl rfl ?_
      refine J_get (.ref (p 1)) 24 C iX3_order_119 gf_X3_12 rfl rfl ?_
      refine J_iconst 1 C iX3_order_122 rfl ?_
      refine J_put (((wBk Z b L (nI m) lc (nI s) nm bP bH o g j l0 l1 l2 l3 l4 l5 ++ wPa Z p kk b (nI i) (sf i) (nw tk i b0) b0 e a 1 y1 (nI s) (nI s) y4 y5) ++ wTk Z kk t (nI (Lt + 1)) kf sf vf) ++ wTp Z t (nI tm) tb) 25 C iX3_order_123 pf_X3_162 rfl rfl rfl (Nat.le_of_ble_eq_true rfl) rfl ?_
      refine J_aload_n C iX3_order_126 rfl rfl ?_
      refine J_getsK C iX3_order_127 kf_X3_180 ?_
      refine J_cV (As := [.ref (zad Z 7)]) (st := []) (rc2 := (rmK 39).cells) (rs2 := (rmK 39).slots) C iX3_order_130 lm_X3_85 yc_X3_take yv_X3_take (c_X3_take (k := 7) hLt hkf htk hend (by omega) (by omega) hm (by decide) (by decide) (by decide)) (q0 := 24) rfl rfl rfl rfl (rmK_le (by omega) (by decide)) (Nat.le_of_ble_eq_true rfl) rfl rfl ?_
      rintro _ _ ⟨i107, b107, e107, a107, s107, o107, g107, j107, hR107, hli107, hls107, rfl, rfl⟩
      refine J_st (.long (valT tk vf 7 (i, b0, e, a, s, o, g, j)) :: []) rfl ?_
      refine J_pop2 C iX3_order_133 rfl ?_
      refine J_aload_n C iX3_order_134 rfl rfl ?_
      refine J_get (.ref (p 1)) 24 C iX3_order_135 gf_X3_12 rfl rfl ?_
      refine J_aload_n C iX3_order_138 rfl rfl ?_
      refine J_cV (As := []) (st := .ref (p 1) :: []) (rc2 := (rmK 39).cells) (rs2 := (rmK 39).slots) C iX3_order_139 lm_X3_164 yc_X3_knownHouse yv_X3_knownHouse (c_X3_knownHouse hLt hkf htk hend (by omega) (by omega) hm) (q0 := 24) rfl rfl rfl rfl (rmK_le (by omega) (by decide)) (Nat.le_of_ble_eq_true rfl) rfl rfl ?_
      rintro _ _ ⟨i108, b108, e108, a108, s108, o108, g108, j108, hR108, hli108, hls108, rfl, rfl⟩
      refine J_st (.int (hseC tk vf nm m (i107, b107, e107, a107, s107, o107, g107, j107)) :: .ref (p 1) :: []) rfl ?_
      refine J_put (((wBk Z b L (nI m) lc (nI s108) nm bP bH o108 g108 j108 l0 l1 l2 l3 l4 l5 ++ wPa Z p kk b (nI i108) (sf i108) (nw tk i108 b108) b108 e108 a108 1 (hseC tk vf nm m (i107, b107, e107, a107, s107, o107, g107, j107)) (nI s) (nI s) y4 y5) ++ wTk Z kk t (nI (Lt + 1)) kf sf vf) ++ wTp Z t (nI tm) tb) 25 C iX3_order_142 pf_X3_168 rfl rfl rfl (Nat.le_of_ble_eq_true rfl) rfl ?_
      refine J_goto 202 C iX3_order_145 rfl ?_
      exact J_vret C E iX3_order_202 ⟨i108, b108, e108, a108, s108, o108, g108, j108, 1, hseC tk vf nm m (i107, b107, e107, a107, s107, o107, g107, j107), nI s, nI s, by rw [ordC, if_neg (show ¬ nowC tk (i, b0, e, a, s, o, g, j) = 4 from hs35), if_pos (show nowC tk (i, b0, e, a, s, o, g, j) = 7 from hs115), hR107, hR108]; rfl, by omega, by omega, rfl, rfl⟩
    · refine J_acmpne 148 C iX3_order_115 rfl (fun h115 => ?_) (fun h115 => absurd h115 (fun e => hs115 (zad_inj C (nw_lt htk _ _) (by decide) e)))
      refine J_aload_n C iX3_order_148 rfl rfl ?_
      refine J_get (.ref (p 1)) 24 C iX3_order_149 gf_X3_12 rfl rfl ?_
      refine J_iconst 2 C iX3_order_152 rfl ?_
      refine J_put (((wBk Z b L (nI m) lc (nI s) nm bP bH o g j l0 l1 l2 l3 l4 l5 ++ wPa Z p kk b (nI i) (sf i) (nw tk i b0) b0 e a 2 y1 (nI s) (nI s) y4 y5) ++ wTk Z kk t (nI (Lt + 1)) kf sf vf) ++ wTp Z t (nI tm) tb) 25 C iX3_order_153 pf_X3_162 rfl rfl rfl (Nat.le_of_ble_eq_true rfl) rfl ?_
      refine J_aload_n C iX3_order_156 rfl rfl ?_
      refine J_getsK C iX3_order_157 kf_X3_183 ?_
      refine J_cV (As := [.ref (zad Z 8)]) (st := []) (rc2 := (rmK 39).cells) (rs2 := (rmK 39).slots) C iX3_order_160 lm_X3_85 yc_X3_take yv_X3_take (c_X3_take (k := 8) hLt hkf htk hend (by omega) (by omega) hm (by decide) (by decide) (by decide)) (q0 := 24) rfl rfl rfl rfl (rmK_le (by omega) (by decide)) (Nat.le_of_ble_eq_true rfl) rfl rfl ?_
      rintro _ _ ⟨i109, b109, e109, a109, s109, o109, g109, j109, hR109, hli109, hls109, rfl, rfl⟩
      refine J_st (.long (valT tk vf 8 (i, b0, e, a, s, o, g, j)) :: []) rfl ?_
      refine J_pop2 C iX3_order_163 rfl ?_
      refine J_aload_n C iX3_order_164 rfl rfl ?_
      refine J_get (.ref (p 1)) 24 C iX3_order_165 gf_X3_12 rfl rfl ?_
      refine J_aload_n C iX3_order_168 rfl rfl ?_
      refine J_cV (As := []) (st := .ref (p 1) :: []) (rc2 := (rmK 39).cells) (rs2 := (rmK 39).slots) C iX3_order_169 lm_X3_164 yc_X3_knownHouse yv_X3_knownHouse (c_X3_knownHouse hLt hkf htk hend (by omega) (by omega) hm) (q0 := 24) rfl rfl rfl rfl (rmK_le (by omega) (by decide)) (Nat.le_of_ble_eq_true rfl) rfl rfl ?_
      rintro _ _ ⟨i110, b110, e110, a110, s110, o110, g110, j110, hR110, hli110, hls110, rfl, rfl⟩
      refine J_st (.int (hseC tk vf nm m (i109, b109, e109, a109, s109, o109, g109, j109)) :: .ref (p 1) :: []) rfl ?_
      refine J_put (((wBk Z b L (nI m) lc (nI s110) nm bP bH o110 g110 j110 l0 l1 l2 l3 l4 l5 ++ wPa Z p kk b (nI i110) (sf i110) (nw tk i110 b110) b110 e110 a110 2 (hseC tk vf nm m (i109, b109, e109, a109, s109, o109, g109, j109)) (nI s) (nI s) y4 y5) ++ wTk Z kk t (nI (Lt + 1)) kf sf vf) ++ wTp Z t (nI tm) tb) 25 C iX3_order_172 pf_X3_168 rfl rfl rfl (Nat.le_of_ble_eq_true rfl) rfl ?_
      refine J_aload_n C iX3_order_175 rfl rfl ?_
      refine J_getsK C iX3_order_176 kf_X3_186 ?_
      refine J_cV (As := [.ref (zad Z 9)]) (st := []) (rc2 := (rmK 39).cells) (rs2 := (rmK 39).slots) C iX3_order_179 lm_X3_85 yc_X3_take yv_X3_take (c_X3_take (k := 9) hLt hkf htk hend (by omega) (by omega) hm (by decide) (by decide) (by decide)) (q0 := 24) rfl rfl rfl rfl (rmK_le (by omega) (by decide)) (Nat.le_of_ble_eq_true rfl) rfl rfl ?_
      rintro _ _ ⟨i111, b111, e111, a111, s111, o111, g111, j111, hR111, hli111, hls111, rfl, rfl⟩
      refine J_st (.long (valT tk vf 9 (i110, b110, e110, a110, s110, o110, g110, j110)) :: []) rfl ?_
      refine J_pop2 C iX3_order_182 rfl ?_
      refine J_aload_n C iX3_order_183 rfl rfl ?_
      refine J_iconst 0 C iX3_order_184 rfl ?_
      refine J_cV (As := [.int 0]) (st := []) (rc2 := (rmK 39).cells) (rs2 := (rmK 39).slots) C iX3_order_185 lm_X3_174 yc_X3_sum yv_X3_sum (c_sum0 hLt hkf htk hend (by omega) (by omega) hm) (q0 := 24) rfl rfl rfl rfl (rmK_le (by omega) (by decide)) (Nat.le_of_ble_eq_true rfl) rfl rfl ?_
      rintro _ _ ⟨i112, b112, e112, a112, s112, o112, g112, j112, hR112, hli112, hls112, rfl, rfl⟩
      refine J_st ([]) rfl ?_
      refine J_aload_n C iX3_order_188 rfl rfl ?_
      refine J_get (.ref (p 1)) 24 C iX3_order_189 gf_X3_12 rfl rfl ?_
      refine J_aload_n C iX3_order_192 rfl rfl ?_
      refine J_get (.ref (b 0)) 24 C iX3_order_193 gf_X3_31 rfl rfl ?_
      refine J_get (.int (nI s112)) 0 C iX3_order_196 gf_X3_133 rfl rfl ?_
      refine J_put (((wBk Z b L (nI m) lc (nI s112) nm bP bH o112 g112 j112 l0 l1 l2 l3 l4 l5 ++ wPa Z p kk b (nI i112) (sf i112) (nw tk i112 b112) b112 e112 a112 2 (hseC tk vf nm m (i109, b109, e109, a109, s109, o109, g109, j109)) (nI s) (nI s112) y4 y5) ++ wTk Z kk t (nI (Lt + 1)) kf sf vf) ++ wTp Z t (nI tm) tb) 25 C iX3_order_199 pf_X3_156 rfl rfl rfl (Nat.le_of_ble_eq_true rfl) rfl ?_
      exact J_vret C E iX3_order_202 ⟨i112, b112, e112, a112, s112, o112, g112, j112, 2, hseC tk vf nm m (i109, b109, e109, a109, s109, o109, g109, j109), nI s, nI s112, by rw [ordC, if_neg (show ¬ nowC tk (i, b0, e, a, s, o, g, j) = 4 from hs35), if_neg (show ¬ nowC tk (i, b0, e, a, s, o, g, j) = 7 from hs115), hR109, hR110, hR111, hR112]; rfl, by omega, by omega, rfl, rfl⟩

set_option maxRecDepth 100000 in
set_option maxHeartbeats 4000000 in
theorem c_X3_lawLine {Z : GZ} {l : Launch} {p kk t b L : Nat → Nat} {m i s Lt tm u : Nat} {b0 : Bool} {e a : Int32} {tb : Nat → Int32} {nm : Nat → Int64} {bP bH o g j l0 l1 l2 l3 l4 l5 : Nat → Int32} {kf : Nat → Option Nat} {sf : Nat → Int32} {vf : Nat → Int64} {y0 y1 y2 y3 y4 y5 : Int32} {tk : Nat → Nat} (hLt : Lt ≤ 400) (hkf : ∀ i, i ≤ Lt → kf i = some (zad Z (tk i))) (htk : ∀ i, tk i < 43) (hend : ∀ i, i ≤ Lt → tk i ≠ 41 → tk i ≠ 42 → i < Lt) (hi : i ≤ Lt) (hs : s ≤ 400) (hm : m ≤ 12) (hu : u ≤ 16)  : Ct Z l yX3_lawLine cX3_lawLine 2 none (rmK 43) [.ref (p 0)] (((wBk Z b L (nI m) (nI u) (nI s) nm bP bH o g j l0 l1 l2 l3 l4 l5 ++ wPa Z p kk b (nI i) (sf i) (nw tk i b0) b0 e a y0 y1 y2 y3 y4 y5) ++ wTk Z kk t (nI (Lt + 1)) kf sf vf) ++ wTp Z t (nI tm) tb) (fun v w => ∃ i2 b2 e2 a2 s2 o2 g2 j2 z0 z1 z2 z3 z4 z5, lawC tk sf vf nm m u (i, b0, e, a, s, o, g, j) = ((i2, b2, e2, a2, s2, o2, g2, j2), z0, z1, z2, z3, z4, z5) ∧ i2 ≤ Lt ∧ s2 ≤ 400 ∧ v = none ∧ w = (((wBk Z b L (nI m) (nI (inc u 16)) (nI s2) nm bP bH o2 g2 j2 (updC l0 u 16 z0) (updC l1 u 16 z1) (updC l2 u 16 z2) (updC l3 u 16 z3) (updC l4 u 16 z4) (updC l5 u 16 z5) ++ wPa Z p kk b (nI i2) (sf i2) (nw tk i2 b2) b2 e2 a2 z0 z1 z2 z3 z4 z5) ++ wTk Z kk t (nI (Lt + 1)) kf sf vf) ++ wTp Z t (nI tm) tb)) := by
  refine Ct.ofJ (own := RX3) (nm := "lawLine") (lv0 := [(0, .ref (p 0))]) (by decide) rfl rfl (Nat.le_of_ble_eq_true rfl) rfl (fun X hXl C E => ?_)
  subst hXl
  refine J_aload_n C iX3_lawLine_0 rfl rfl ?_
  refine J_get (.int (sf i)) 24 C iX3_lawLine_1 gf_X3_57 rfl rfl ?_
  refine J_istore_n [(1, .int (sf i)), (0, .ref (p 0))] C iX3_lawLine_4 rfl (by decide) rfl ?_
  refine J_aload_n C iX3_lawLine_5 rfl rfl ?_
  refine J_getsK C iX3_lawLine_6 kf_X3_124 ?_
  refine J_cV (As := [.ref (zad Z 3)]) (st := []) (rc2 := (rmK 43).cells) (rs2 := (rmK 43).slots) C iX3_lawLine_9 lm_X3_85 yc_X3_take yv_X3_take (c_X3_take (k := 3) hLt hkf htk hend (by omega) (by omega) hm (by decide) (by decide) (by decide)) (q0 := 24) rfl rfl rfl rfl (rmK_le (by omega) (by decide)) (Nat.le_of_ble_eq_true rfl) rfl rfl ?_
  rintro _ _ ⟨i113, b113, e113, a113, s113, o113, g113, j113, hR113, hli113, hls113, rfl, rfl⟩
  refine J_st (.long (valT tk vf 3 (i, b0, e, a, s, o, g, j)) :: []) rfl ?_
  refine J_pop2 C iX3_lawLine_12 rfl ?_
  refine J_aload_n C iX3_lawLine_13 rfl rfl ?_
  refine J_get (.ref (b 0)) 24 C iX3_lawLine_14 gf_X3_31 rfl rfl ?_
  refine J_get (.int (nI u)) 0 C iX3_lawLine_17 gf_X3_127 rfl rfl ?_
  refine J_bipush 16 C iX3_lawLine_20 rfl ?_
  by_cases hs22 : u < 16
  · refine J_icmplt 31 C iX3_lawLine_22 rfl (fun h22 => ?_) (fun h22 => absurd (nI_lt (a := u) (b := 16) (by omega) (by omega)) h22)
    refine J_aload_n C iX3_lawLine_31 rfl rfl ?_
    refine J_cV (As := []) (st := []) (rc2 := (rmK 43).cells) (rs2 := (rmK 43).slots) C iX3_lawLine_32 lm_X3_130 yc_X3_order yv_X3_order (c_X3_order hLt hkf htk hend (by omega) (by omega) hm) (q0 := 24) rfl rfl rfl rfl (rmK_le (by omega) (by decide)) (Nat.le_of_ble_eq_true rfl) rfl rfl ?_
    rintro _ _ ⟨i114, b114, e114, a114, s114, o114, g114, j114, z0114, z1114, z2114, z3114, hR114, hli114, hls114, rfl, rfl⟩
    refine J_st ([]) rfl ?_
    refine J_aload_n C iX3_lawLine_35 rfl rfl ?_
    refine J_get (.ref (p 1)) 24 C iX3_lawLine_36 gf_X3_12 rfl rfl ?_
    refine J_aload_n C iX3_lawLine_39 rfl rfl ?_
    refine J_get (.ref (b 0)) 24 C iX3_lawLine_40 gf_X3_31 rfl rfl ?_
    refine J_get (.int (nI s114)) 0 C iX3_lawLine_43 gf_X3_133 rfl rfl ?_
    refine J_put (((wBk Z b L (nI m) (nI u) (nI s114) nm bP bH o114 g114 j114 l0 l1 l2 l3 l4 l5 ++ wPa Z p kk b (nI i114) (sf i114) (nw tk i114 b114) b114 e114 a114 z0114 z1114 z2114 z3114 (nI s114) y5) ++ wTk Z kk t (nI (Lt + 1)) kf sf vf) ++ wTp Z t (nI tm) tb) 25 C iX3_lawLine_46 pf_X3_136 rfl rfl rfl (Nat.le_of_ble_eq_true rfl) rfl ?_
    refine J_aload_n C iX3_lawLine_49 rfl rfl ?_
    refine J_get (.ref (zad Z (nw tk i114 b114))) 24 C iX3_lawLine_50 gf_X3_24 rfl rfl ?_
    refine J_getsK C iX3_lawLine_53 kf_X3_139 ?_
    by_cases hs56 : (nw tk i114 b114) = 10
    · refine J_acmpne 72 C iX3_lawLine_56 rfl (fun h56 => absurd (congrArg (zad Z) hs56) h56) (fun h56 => ?_)
      refine J_aload_n C iX3_lawLine_59 rfl rfl ?_
      refine J_getsK C iX3_lawLine_60 kf_X3_139 ?_
      refine J_cV (As := [.ref (zad Z 10)]) (st := []) (rc2 := (rmK 43).cells) (rs2 := (rmK 43).slots) C iX3_lawLine_63 lm_X3_85 yc_X3_take yv_X3_take (c_X3_take (k := 10) hLt hkf htk hend (by omega) (by omega) hm (by decide) (by decide) (by decide)) (q0 := 24) rfl rfl rfl rfl (rmK_le (by omega) (by decide)) (Nat.le_of_ble_eq_true rfl) rfl rfl ?_
      rintro _ _ ⟨i115, b115, e115, a115, s115, o115, g115, j115, hR115, hli115, hls115, rfl, rfl⟩
      refine J_st (.long (valT tk vf 10 (i114, b114, e114, a114, s114, o114, g114, j114)) :: []) rfl ?_
      refine J_pop2 C iX3_lawLine_66 rfl ?_
      refine J_aload_n C iX3_lawLine_67 rfl rfl ?_
      refine J_iconst 0 C iX3_lawLine_68 rfl ?_
      refine J_cV (As := [.int 0]) (st := []) (rc2 := (rmK 43).cells) (rs2 := (rmK 43).slots) C iX3_lawLine_69 lm_X3_142 yc_X3_test yv_X3_test (c_test0 hLt hkf htk hend (by omega) (by omega) hm) (q0 := 24) rfl rfl rfl rfl (rmK_le (by omega) (by decide)) (Nat.le_of_ble_eq_true rfl) rfl rfl ?_
      rintro _ _ ⟨i116, b116, e116, a116, s116, o116, g116, j116, hR116, hli116, hls116, rfl, rfl⟩
      refine J_st ([]) rfl ?_
      refine J_aload_n C iX3_lawLine_72 rfl rfl ?_
      refine J_get (.ref (p 1)) 24 C iX3_lawLine_73 gf_X3_12 rfl rfl ?_
      refine J_aload_n C iX3_lawLine_76 rfl rfl ?_
      refine J_get (.ref (b 0)) 24 C iX3_lawLine_77 gf_X3_31 rfl rfl ?_
      refine J_get (.int (nI s116)) 0 C iX3_lawLine_80 gf_X3_133 rfl rfl ?_
      refine J_put (((wBk Z b L (nI m) (nI u) (nI s116) nm bP bH o116 g116 j116 l0 l1 l2 l3 l4 l5 ++ wPa Z p kk b (nI i116) (sf i116) (nw tk i116 b116) b116 e116 a116 z0114 z1114 z2114 z3114 (nI s114) (nI s116)) ++ wTk Z kk t (nI (Lt + 1)) kf sf vf) ++ wTp Z t (nI tm) tb) 25 C iX3_lawLine_83 pf_X3_146 rfl rfl rfl (Nat.le_of_ble_eq_true rfl) rfl ?_
      refine J_aload_n C iX3_lawLine_86 rfl rfl ?_
      refine J_get (.ref (b 0)) 24 C iX3_lawLine_87 gf_X3_31 rfl rfl ?_
      refine J_aload_n C iX3_lawLine_90 rfl rfl ?_
      refine J_get (.ref (p 1)) 24 C iX3_lawLine_91 gf_X3_12 rfl rfl ?_
      refine J_cVb (As := [.ref (p 1)]) (st := []) (rc2 := (rmK 43).cells) (rs2 := (rmK 43).slots) C iX3_lawLine_94 lm_X3_149 yc_X0_addLaw yv_X0_addLaw (c_X0_addLaw (m := u) (wl := (wPa Z p kk b (nI i116) (sf i116) (nw tk i116 b116) b116 e116 a116 z0114 z1114 z2114 z3114 (nI s114) (nI s116))) (q := 1) hu rfl) (q0 := 0) rfl rfl rfl [] (wTk Z kk t (nI (Lt + 1)) kf sf vf ++ wTp Z t (nI tm) tb) rfl rfl (rmK_le (by omega) (by decide)) (Nat.le_of_ble_eq_true rfl) rfl rfl ?_
      rintro _ _ ⟨rfl, rfl⟩
      refine J_st ([]) rfl ?_
      refine J_ws (((wBk Z b L (nI m) (nI (inc u 16)) (nI s116) nm bP bH o116 g116 j116 (updC l0 u 16 z0114) (updC l1 u 16 z1114) (updC l2 u 16 z2114) (updC l3 u 16 z3114) (updC l4 u 16 (nI s114)) (updC l5 u 16 (nI s116)) ++ wPa Z p kk b (nI i116) (sf i116) (nw tk i116 b116) b116 e116 a116 z0114 z1114 z2114 z3114 (nI s114) (nI s116)) ++ wTk Z kk t (nI (Lt + 1)) kf sf vf) ++ wTp Z t (nI tm) tb) rfl ?_
      exact J_vret C E iX3_lawLine_97 ⟨i116, b116, e116, a116, s116, o116, g116, j116, z0114, z1114, z2114, z3114, nI s114, nI s116, by rw [lawC, lawT, if_pos hs22, hR113, hR114, lawE]; dsimp only; rw [lawW, if_pos (show nowC tk (i114, b114, e114, a114, s114, o114, g114, j114) = 10 from hs56), hR115, hR116]; rfl, by omega, by omega, rfl, rfl⟩
    · refine J_acmpne 72 C iX3_lawLine_56 rfl (fun h56 => ?_) (fun h56 => absurd h56 (fun e => hs56 (zad_inj C (nw_lt htk _ _) (by decide) e)))
      refine J_aload_n C iX3_lawLine_72 rfl rfl ?_
      refine J_get (.ref (p 1)) 24 C iX3_lawLine_73 gf_X3_12 rfl rfl ?_
      refine J_aload_n C iX3_lawLine_76 rfl rfl ?_
      refine J_get (.ref (b 0)) 24 C iX3_lawLine_77 gf_X3_31 rfl rfl ?_
      refine J_get (.int (nI s114)) 0 C iX3_lawLine_80 gf_X3_133 rfl rfl ?_
      refine J_put (((wBk Z b L (nI m) (nI u) (nI s114) nm bP bH o114 g114 j114 l0 l1 l2 l3 l4 l5 ++ wPa Z p kk b (nI i114) (sf i114) (nw tk i114 b114) b114 e114 a114 z0114 z1114 z2114 z3114 (nI s114) (nI s114)) ++ wTk Z kk t (nI (Lt + 1)) kf sf vf) ++ wTp Z t (nI tm) tb) 25 C iX3_lawLine_83 pf_X3_146 rfl rfl rfl (Nat.le_of_ble_eq_true rfl) rfl ?_
      refine J_aload_n C iX3_lawLine_86 rfl rfl ?_
      refine J_get (.ref (b 0)) 24 C iX3_lawLine_87 gf_X3_31 rfl rfl ?_
      refine J_aload_n C iX3_lawLine_90 rfl rfl ?_
      refine J_get (.ref (p 1)) 24 C iX3_lawLine_91 gf_X3_12 rfl rfl ?_
      refine J_cVb (As := [.ref (p 1)]) (st := []) (rc2 := (rmK 43).cells) (rs2 := (rmK 43).slots) C iX3_lawLine_94 lm_X3_149 yc_X0_addLaw yv_X0_addLaw (c_X0_addLaw (m := u) (wl := (wPa Z p kk b (nI i114) (sf i114) (nw tk i114 b114) b114 e114 a114 z0114 z1114 z2114 z3114 (nI s114) (nI s114))) (q := 1) hu rfl) (q0 := 0) rfl rfl rfl [] (wTk Z kk t (nI (Lt + 1)) kf sf vf ++ wTp Z t (nI tm) tb) rfl rfl (rmK_le (by omega) (by decide)) (Nat.le_of_ble_eq_true rfl) rfl rfl ?_
      rintro _ _ ⟨rfl, rfl⟩
      refine J_st ([]) rfl ?_
      refine J_ws (((wBk Z b L (nI m) (nI (inc u 16)) (nI s114) nm bP bH o114 g114 j114 (updC l0 u 16 z0114) (updC l1 u 16 z1114) (updC l2 u 16 z2114) (updC l3 u 16 z3114) (updC l4 u 16 (nI s114)) (updC l5 u 16 (nI s114)) ++ wPa Z p kk b (nI i114) (sf i114) (nw tk i114 b114) b114 e114 a114 z0114 z1114 z2114 z3114 (nI s114) (nI s114)) ++ wTk Z kk t (nI (Lt + 1)) kf sf vf) ++ wTp Z t (nI tm) tb) rfl ?_
      exact J_vret C E iX3_lawLine_97 ⟨i114, b114, e114, a114, s114, o114, g114, j114, z0114, z1114, z2114, z3114, nI s114, nI s114, by rw [lawC, lawT, if_pos hs22, hR113, hR114, lawE]; dsimp only; rw [lawW, if_neg (show ¬ nowC tk (i114, b114, e114, a114, s114, o114, g114, j114) = 10 from hs56)]; rfl, by omega, by omega, rfl, rfl⟩
  · refine J_icmplt 31 C iX3_lawLine_22 rfl (fun h22 => absurd h22 (nI_nlt (a := u) (b := 16) (by omega) (by omega))) (fun h22 => ?_)
    refine J_aload_n C iX3_lawLine_25 rfl rfl ?_
    refine J_iconst 4 C iX3_lawLine_26 rfl ?_
    refine J_iload_n C iX3_lawLine_27 rfl rfl ?_
    refine J_cV (As := [.int 4, .int (sf i)]) (st := []) (rc2 := (rmK 43).cells) (rs2 := (rmK 43).slots) C iX3_lawLine_28 lm_X3_96 yc_X3_tell yv_X3_tell (c_X3_tell hLt hkf htk hend (by omega) (by omega) hm) (q0 := 24) rfl rfl rfl rfl (rmK_le (by omega) (by decide)) (Nat.le_of_ble_eq_true rfl) rfl rfl ?_
    rintro _ _ ⟨i117, b117, e117, a117, s117, o117, g117, j117, hR117, hli117, hls117, rfl, rfl⟩
    refine J_st ([]) rfl ?_
    refine J_aload_n C iX3_lawLine_31 rfl rfl ?_
    refine J_cV (As := []) (st := []) (rc2 := (rmK 43).cells) (rs2 := (rmK 43).slots) C iX3_lawLine_32 lm_X3_130 yc_X3_order yv_X3_order (c_X3_order hLt hkf htk hend (by omega) (by omega) hm) (q0 := 24) rfl rfl rfl rfl (rmK_le (by omega) (by decide)) (Nat.le_of_ble_eq_true rfl) rfl rfl ?_
    rintro _ _ ⟨i118, b118, e118, a118, s118, o118, g118, j118, z0118, z1118, z2118, z3118, hR118, hli118, hls118, rfl, rfl⟩
    refine J_st ([]) rfl ?_
    refine J_aload_n C iX3_lawLine_35 rfl rfl ?_
    refine J_get (.ref (p 1)) 24 C iX3_lawLine_36 gf_X3_12 rfl rfl ?_
    refine J_aload_n C iX3_lawLine_39 rfl rfl ?_
    refine J_get (.ref (b 0)) 24 C iX3_lawLine_40 gf_X3_31 rfl rfl ?_
    refine J_get (.int (nI s118)) 0 C iX3_lawLine_43 gf_X3_133 rfl rfl ?_
    refine J_put (((wBk Z b L (nI m) (nI u) (nI s118) nm bP bH o118 g118 j118 l0 l1 l2 l3 l4 l5 ++ wPa Z p kk b (nI i118) (sf i118) (nw tk i118 b118) b118 e118 a118 z0118 z1118 z2118 z3118 (nI s118) y5) ++ wTk Z kk t (nI (Lt + 1)) kf sf vf) ++ wTp Z t (nI tm) tb) 25 C iX3_lawLine_46 pf_X3_136 rfl rfl rfl (Nat.le_of_ble_eq_true rfl) rfl ?_
    refine J_aload_n C iX3_lawLine_49 rfl rfl ?_
    refine J_get (.ref (zad Z (nw tk i118 b118))) 24 C iX3_lawLine_50 gf_X3_24 rfl rfl ?_
    refine J_getsK C iX3_lawLine_53 kf_X3_139 ?_
    by_cases hs56 : (nw tk i118 b118) = 10
    · refine J_acmpne 72 C iX3_lawLine_56 rfl (fun h56 => absurd (congrArg (zad Z) hs56) h56) (fun h56 => ?_)
      refine J_aload_n C iX3_lawLine_59 rfl rfl ?_
      refine J_getsK C iX3_lawLine_60 kf_X3_139 ?_
      refine J_cV (As := [.ref (zad Z 10)]) (st := []) (rc2 := (rmK 43).cells) (rs2 := (rmK 43).slots) C iX3_lawLine_63 lm_X3_85 yc_X3_take yv_X3_take (c_X3_take (k := 10) hLt hkf htk hend (by omega) (by omega) hm (by decide) (by decide) (by decide)) (q0 := 24) rfl rfl rfl rfl (rmK_le (by omega) (by decide)) (Nat.le_of_ble_eq_true rfl) rfl rfl ?_
      rintro _ _ ⟨i119, b119, e119, a119, s119, o119, g119, j119, hR119, hli119, hls119, rfl, rfl⟩
      refine J_st (.long (valT tk vf 10 (i118, b118, e118, a118, s118, o118, g118, j118)) :: []) rfl ?_
      refine J_pop2 C iX3_lawLine_66 rfl ?_
      refine J_aload_n C iX3_lawLine_67 rfl rfl ?_
      refine J_iconst 0 C iX3_lawLine_68 rfl ?_
      refine J_cV (As := [.int 0]) (st := []) (rc2 := (rmK 43).cells) (rs2 := (rmK 43).slots) C iX3_lawLine_69 lm_X3_142 yc_X3_test yv_X3_test (c_test0 hLt hkf htk hend (by omega) (by omega) hm) (q0 := 24) rfl rfl rfl rfl (rmK_le (by omega) (by decide)) (Nat.le_of_ble_eq_true rfl) rfl rfl ?_
      rintro _ _ ⟨i120, b120, e120, a120, s120, o120, g120, j120, hR120, hli120, hls120, rfl, rfl⟩
      refine J_st ([]) rfl ?_
      refine J_aload_n C iX3_lawLine_72 rfl rfl ?_
      refine J_get (.ref (p 1)) 24 C iX3_lawLine_73 gf_X3_12 rfl rfl ?_
      refine J_aload_n C iX3_lawLine_76 rfl rfl ?_
      refine J_get (.ref (b 0)) 24 C iX3_lawLine_77 gf_X3_31 rfl rfl ?_
      refine J_get (.int (nI s120)) 0 C iX3_lawLine_80 gf_X3_133 rfl rfl ?_
      refine J_put (((wBk Z b L (nI m) (nI u) (nI s120) nm bP bH o120 g120 j120 l0 l1 l2 l3 l4 l5 ++ wPa Z p kk b (nI i120) (sf i120) (nw tk i120 b120) b120 e120 a120 z0118 z1118 z2118 z3118 (nI s118) (nI s120)) ++ wTk Z kk t (nI (Lt + 1)) kf sf vf) ++ wTp Z t (nI tm) tb) 25 C iX3_lawLine_83 pf_X3_146 rfl rfl rfl (Nat.le_of_ble_eq_true rfl) rfl ?_
      refine J_aload_n C iX3_lawLine_86 rfl rfl ?_
      refine J_get (.ref (b 0)) 24 C iX3_lawLine_87 gf_X3_31 rfl rfl ?_
      refine J_aload_n C iX3_lawLine_90 rfl rfl ?_
      refine J_get (.ref (p 1)) 24 C iX3_lawLine_91 gf_X3_12 rfl rfl ?_
      refine J_cVb (As := [.ref (p 1)]) (st := []) (rc2 := (rmK 43).cells) (rs2 := (rmK 43).slots) C iX3_lawLine_94 lm_X3_149 yc_X0_addLaw yv_X0_addLaw (c_X0_addLaw (m := u) (wl := (wPa Z p kk b (nI i120) (sf i120) (nw tk i120 b120) b120 e120 a120 z0118 z1118 z2118 z3118 (nI s118) (nI s120))) (q := 1) hu rfl) (q0 := 0) rfl rfl rfl [] (wTk Z kk t (nI (Lt + 1)) kf sf vf ++ wTp Z t (nI tm) tb) rfl rfl (rmK_le (by omega) (by decide)) (Nat.le_of_ble_eq_true rfl) rfl rfl ?_
      rintro _ _ ⟨rfl, rfl⟩
      refine J_st ([]) rfl ?_
      refine J_ws (((wBk Z b L (nI m) (nI (inc u 16)) (nI s120) nm bP bH o120 g120 j120 (updC l0 u 16 z0118) (updC l1 u 16 z1118) (updC l2 u 16 z2118) (updC l3 u 16 z3118) (updC l4 u 16 (nI s118)) (updC l5 u 16 (nI s120)) ++ wPa Z p kk b (nI i120) (sf i120) (nw tk i120 b120) b120 e120 a120 z0118 z1118 z2118 z3118 (nI s118) (nI s120)) ++ wTk Z kk t (nI (Lt + 1)) kf sf vf) ++ wTp Z t (nI tm) tb) rfl ?_
      exact J_vret C E iX3_lawLine_97 ⟨i120, b120, e120, a120, s120, o120, g120, j120, z0118, z1118, z2118, z3118, nI s118, nI s120, by rw [lawC, lawT, if_neg hs22, hR113, hR117, hR118, lawE]; dsimp only; rw [lawW, if_pos (show nowC tk (i118, b118, e118, a118, s118, o118, g118, j118) = 10 from hs56), hR119, hR120]; rfl, by omega, by omega, rfl, rfl⟩
    · refine J_acmpne 72 C iX3_lawLine_56 rfl (fun h56 => ?_) (fun h56 => absurd h56 (fun e => hs56 (zad_inj C (nw_lt htk _ _) (by decide) e)))
      refine J_aload_n C iX3_lawLine_72 rfl rfl ?_
      refine J_get (.ref (p 1)) 24 C iX3_lawLine_73 gf_X3_12 rfl rfl ?_
      refine J_aload_n C iX3_lawLine_76 rfl rfl ?_
      refine J_get (.ref (b 0)) 24 C iX3_lawLine_77 gf_X3_31 rfl rfl ?_
      refine J_get (.int (nI s118)) 0 C iX3_lawLine_80 gf_X3_133 rfl rfl ?_
      refine J_put (((wBk Z b L (nI m) (nI u) (nI s118) nm bP bH o118 g118 j118 l0 l1 l2 l3 l4 l5 ++ wPa Z p kk b (nI i118) (sf i118) (nw tk i118 b118) b118 e118 a118 z0118 z1118 z2118 z3118 (nI s118) (nI s118)) ++ wTk Z kk t (nI (Lt + 1)) kf sf vf) ++ wTp Z t (nI tm) tb) 25 C iX3_lawLine_83 pf_X3_146 rfl rfl rfl (Nat.le_of_ble_eq_true rfl) rfl ?_
      refine J_aload_n C iX3_lawLine_86 rfl rfl ?_
      refine J_get (.ref (b 0)) 24 C iX3_lawLine_87 gf_X3_31 rfl rfl ?_
      refine J_aload_n C iX3_lawLine_90 rfl rfl ?_
      refine J_get (.ref (p 1)) 24 C iX3_lawLine_91 gf_X3_12 rfl rfl ?_
      refine J_cVb (As := [.ref (p 1)]) (st := []) (rc2 := (rmK 43).cells) (rs2 := (rmK 43).slots) C iX3_lawLine_94 lm_X3_149 yc_X0_addLaw yv_X0_addLaw (c_X0_addLaw (m := u) (wl := (wPa Z p kk b (nI i118) (sf i118) (nw tk i118 b118) b118 e118 a118 z0118 z1118 z2118 z3118 (nI s118) (nI s118))) (q := 1) hu rfl) (q0 := 0) rfl rfl rfl [] (wTk Z kk t (nI (Lt + 1)) kf sf vf ++ wTp Z t (nI tm) tb) rfl rfl (rmK_le (by omega) (by decide)) (Nat.le_of_ble_eq_true rfl) rfl rfl ?_
      rintro _ _ ⟨rfl, rfl⟩
      refine J_st ([]) rfl ?_
      refine J_ws (((wBk Z b L (nI m) (nI (inc u 16)) (nI s118) nm bP bH o118 g118 j118 (updC l0 u 16 z0118) (updC l1 u 16 z1118) (updC l2 u 16 z2118) (updC l3 u 16 z3118) (updC l4 u 16 (nI s118)) (updC l5 u 16 (nI s118)) ++ wPa Z p kk b (nI i118) (sf i118) (nw tk i118 b118) b118 e118 a118 z0118 z1118 z2118 z3118 (nI s118) (nI s118)) ++ wTk Z kk t (nI (Lt + 1)) kf sf vf) ++ wTp Z t (nI tm) tb) rfl ?_
      exact J_vret C E iX3_lawLine_97 ⟨i118, b118, e118, a118, s118, o118, g118, j118, z0118, z1118, z2118, z3118, nI s118, nI s118, by rw [lawC, lawT, if_neg hs22, hR113, hR117, hR118, lawE]; dsimp only; rw [lawW, if_neg (show ¬ nowC tk (i118, b118, e118, a118, s118, o118, g118, j118) = 10 from hs56)]; rfl, by omega, by omega, rfl, rfl⟩

set_option maxRecDepth 100000 in
set_option maxHeartbeats 4000000 in
theorem c_X3_houseLine {Z : GZ} {l : Launch} {p kk t b L : Nat → Nat} {m i s Lt tm : Nat} {b0 : Bool} {e a lc : Int32} {tb : Nat → Int32} {nm : Nat → Int64} {bP bH o g j l0 l1 l2 l3 l4 l5 : Nat → Int32} {kf : Nat → Option Nat} {sf : Nat → Int32} {vf : Nat → Int64} {y0 y1 y2 y3 y4 y5 : Int32} {tk : Nat → Nat} (hLt : Lt ≤ 400) (hkf : ∀ i, i ≤ Lt → kf i = some (zad Z (tk i))) (htk : ∀ i, tk i < 43) (hend : ∀ i, i ≤ Lt → tk i ≠ 41 → tk i ≠ 42 → i < Lt) (hi : i ≤ Lt) (hs : s ≤ 400) (hm : m ≤ 12)  : Ct Z l yX3_houseLine cX3_houseLine 10 none (rmK 2) [.ref (p 0)] (((wBk Z b L (nI m) lc (nI s) nm bP bH o g j l0 l1 l2 l3 l4 l5 ++ wPa Z p kk b (nI i) (sf i) (nw tk i b0) b0 e a y0 y1 y2 y3 y4 y5) ++ wTk Z kk t (nI (Lt + 1)) kf sf vf) ++ wTp Z t (nI tm) tb) (fun v w => ∃ i2 b2 e2 a2 s2 o2 g2 j2 z0 z1 z2, houC tk sf vf nm m bP (i, b0, e, a, s, o, g, j) = ((i2, b2, e2, a2, s2, o2, g2, j2), z0, z1, z2) ∧ i2 ≤ Lt ∧ s2 ≤ 400 ∧ v = none ∧ w = (((wBk Z b L (nI (inc m 12)) lc (nI s2) (updCL nm m 12 z0) (updC bP m 12 z1.toInt32) (updC bH m 12 z2.toInt32) o2 g2 j2 l0 l1 l2 l3 l4 l5 ++ wPa Z p kk b (nI i2) (sf i2) (nw tk i2 b2) b2 e2 a2 y0 y1 y2 y3 y4 y5) ++ wTk Z kk t (nI (Lt + 1)) kf sf vf) ++ wTp Z t (nI tm) tb)) := by
  refine Ct.ofJ (own := RX3) (nm := "houseLine") (lv0 := [(0, .ref (p 0))]) (by decide) rfl rfl (Nat.le_of_ble_eq_true rfl) rfl (fun X hXl C E => ?_)
  subst hXl
  refine J_aload_n C iX3_houseLine_0 rfl rfl ?_
  refine J_getsK C iX3_houseLine_1 kf_X3_73 ?_
  refine J_cV (As := [.ref (zad Z 0)]) (st := []) (rc2 := (rmK 2).cells) (rs2 := (rmK 2).slots) C iX3_houseLine_4 lm_X3_85 yc_X3_take yv_X3_take (c_X3_take (k := 0) hLt hkf htk hend (by omega) (by omega) hm (by decide) (by decide) (by decide)) (q0 := 24) rfl rfl rfl rfl (rmK_le (by omega) (by decide)) (Nat.le_of_ble_eq_true rfl) rfl rfl ?_
  rintro _ _ ⟨i121, b121, e121, a121, s121, o121, g121, j121, hR121, hli121, hls121, rfl, rfl⟩
  refine J_st (.long (valT tk vf 0 (i, b0, e, a, s, o, g, j)) :: []) rfl ?_
  refine J_pop2 C iX3_houseLine_7 rfl ?_
  refine J_aload_n C iX3_houseLine_8 rfl rfl ?_
  refine J_get (.int (sf i121)) 24 C iX3_houseLine_9 gf_X3_57 rfl rfl ?_
  refine J_istore_n [(1, .int (sf i121)), (0, .ref (p 0))] C iX3_houseLine_12 rfl (by decide) rfl ?_
  refine J_aload_n C iX3_houseLine_13 rfl rfl ?_
  refine J_getsK C iX3_houseLine_14 kf_X3_89 ?_
  refine J_cV (As := [.ref (zad Z 39)]) (st := []) (rc2 := (rmK 2).cells) (rs2 := (rmK 2).slots) C iX3_houseLine_17 lm_X3_85 yc_X3_take yv_X3_take (c_X3_take (k := 39) hLt hkf htk hend (by omega) (by omega) hm (by decide) (by decide) (by decide)) (q0 := 24) rfl rfl rfl rfl (rmK_le (by omega) (by decide)) (Nat.le_of_ble_eq_true rfl) rfl rfl ?_
  rintro _ _ ⟨i122, b122, e122, a122, s122, o122, g122, j122, hR122, hli122, hls122, rfl, rfl⟩
  refine J_st (.long (valT tk vf 39 (i121, b121, e121, a121, s121, o121, g121, j121)) :: []) rfl ?_
  refine J_lstore_n [(2, .long (valT tk vf 39 (i121, b121, e121, a121, s121, o121, g121, j121))), (1, .int (sf i121)), (0, .ref (p 0))] C iX3_houseLine_20 rfl (by decide) rfl ?_
  refine J_aload_n C iX3_houseLine_21 rfl rfl ?_
  refine J_get (.ref (b 0)) 24 C iX3_houseLine_22 gf_X3_31 rfl rfl ?_
  refine J_lload_n C iX3_houseLine_25 rfl rfl ?_
  refine J_cVb (As := [.long (valT tk vf 39 (i121, b121, e121, a121, s121, o121, g121, j121))]) (st := []) (rc2 := (rmK 2).cells) (rs2 := (rmK 2).slots) C iX3_houseLine_26 lm_X3_92 yc_X0_houseNamed yv_X0_houseNamed (c_X0_houseNamed (m := m) hm) (q0 := 0) rfl rfl rfl [] ((wPa Z p kk b (nI i122) (sf i122) (nw tk i122 b122) b122 e122 a122 y0 y1 y2 y3 y4 y5 ++ wTk Z kk t (nI (Lt + 1)) kf sf vf) ++ wTp Z t (nI tm) tb) rfl rfl (rmK_le (by omega) (by decide)) (Nat.le_of_ble_eq_true rfl) rfl rfl ?_
  rintro _ _ ⟨rfl, rfl⟩
  refine J_st (.int (hnF nm (valT tk vf 39 (i121, b121, e121, a121, s121, o121, g121, j121)) m) :: []) rfl ?_
  refine J_ws (((wBk Z b L (nI m) lc (nI s122) nm bP bH o122 g122 j122 l0 l1 l2 l3 l4 l5 ++ wPa Z p kk b (nI i122) (sf i122) (nw tk i122 b122) b122 e122 a122 y0 y1 y2 y3 y4 y5) ++ wTk Z kk t (nI (Lt + 1)) kf sf vf) ++ wTp Z t (nI tm) tb) rfl ?_
  refine J_iconst (-1) C iX3_houseLine_29 rfl ?_
  refine J_icmpeq 42 C iX3_houseLine_30 rfl (fun h30 => ?_) (fun h30 => ?_)
  · refine J_aload_n C iX3_houseLine_42 rfl rfl ?_
    refine J_get (.ref (b 0)) 24 C iX3_houseLine_43 gf_X3_31 rfl rfl ?_
    refine J_get (.int (nI m)) 0 C iX3_houseLine_46 gf_X3_100 rfl rfl ?_
    refine J_bipush 12 C iX3_houseLine_49 rfl ?_
    by_cases hs51 : m < 12
    · refine J_icmplt 60 C iX3_houseLine_51 rfl (fun h51 => ?_) (fun h51 => absurd (nI_lt (a := m) (b := 12) (by omega) (by omega)) h51)
      refine J_aload_n C iX3_houseLine_60 rfl rfl ?_
      refine J_getsK C iX3_houseLine_61 kf_X3_103 ?_
      refine J_cV (As := [.ref (zad Z 1)]) (st := []) (rc2 := (rmK 2).cells) (rs2 := (rmK 2).slots) C iX3_houseLine_64 lm_X3_85 yc_X3_take yv_X3_take (c_X3_take (k := 1) hLt hkf htk hend (by omega) (by omega) hm (by decide) (by decide) (by decide)) (q0 := 24) rfl rfl rfl rfl (rmK_le (by omega) (by decide)) (Nat.le_of_ble_eq_true rfl) rfl rfl ?_
      rintro _ _ ⟨i123, b123, e123, a123, s123, o123, g123, j123, hR123, hli123, hls123, rfl, rfl⟩
      refine J_st (.long (valT tk vf 1 (i122, b122, e122, a122, s122, o122, g122, j122)) :: []) rfl ?_
      refine J_pop2 C iX3_houseLine_67 rfl ?_
      refine J_aload_n C iX3_houseLine_68 rfl rfl ?_
      refine J_get (.int (sf i123)) 24 C iX3_houseLine_69 gf_X3_57 rfl rfl ?_
      refine J_istore [(4, .int (sf i123)), (2, .long (valT tk vf 39 (i121, b121, e121, a121, s121, o121, g121, j121))), (1, .int (sf i121)), (0, .ref (p 0))] C iX3_houseLine_72 (by decide) rfl ?_
      refine J_aload_n C iX3_houseLine_74 rfl rfl ?_
      refine J_getsK C iX3_houseLine_75 kf_X3_106 ?_
      refine J_cV (As := [.ref (zad Z 40)]) (st := []) (rc2 := (rmK 2).cells) (rs2 := (rmK 2).slots) C iX3_houseLine_78 lm_X3_85 yc_X3_take yv_X3_take (c_X3_take (k := 40) hLt hkf htk hend (by omega) (by omega) hm (by decide) (by decide) (by decide)) (q0 := 24) rfl rfl rfl rfl (rmK_le (by omega) (by decide)) (Nat.le_of_ble_eq_true rfl) rfl rfl ?_
      rintro _ _ ⟨i124, b124, e124, a124, s124, o124, g124, j124, hR124, hli124, hls124, rfl, rfl⟩
      refine J_st (.long (valT tk vf 40 (i123, b123, e123, a123, s123, o123, g123, j123)) :: []) rfl ?_
      refine J_lstore [(5, .long (valT tk vf 40 (i123, b123, e123, a123, s123, o123, g123, j123))), (4, .int (sf i123)), (2, .long (valT tk vf 39 (i121, b121, e121, a121, s121, o121, g121, j121))), (1, .int (sf i121)), (0, .ref (p 0))] C iX3_houseLine_81 (by decide) rfl ?_
      refine J_lload C iX3_houseLine_83 rfl ?_
      refine J_ldc2 99 C iX3_houseLine_85 (tsg_in (i := 1027) (by decide +kernel) rfl) ?_
      refine J_lcmp C iX3_houseLine_88 ?_
      refine J_ifgtL 104 C iX3_houseLine_89 rfl (fun h89 => ?_) (fun h89 => ?_)
      · refine J_aload_n C iX3_houseLine_104 rfl rfl ?_
        refine J_iconst 5 C iX3_houseLine_105 rfl ?_
        refine J_iload C iX3_houseLine_106 rfl ?_
        refine J_cV (As := [.int 5, .int (sf i123)]) (st := []) (rc2 := (rmK 2).cells) (rs2 := (rmK 2).slots) C iX3_houseLine_108 lm_X3_96 yc_X3_tell yv_X3_tell (c_X3_tell hLt hkf htk hend (by omega) (by omega) hm) (q0 := 24) rfl rfl rfl rfl (rmK_le (by omega) (by decide)) (Nat.le_of_ble_eq_true rfl) rfl rfl ?_
        rintro _ _ ⟨i125, b125, e125, a125, s125, o125, g125, j125, hR125, hli125, hls125, rfl, rfl⟩
        refine J_st ([]) rfl ?_
        refine J_aload_n C iX3_houseLine_111 rfl rfl ?_
        refine J_getsK C iX3_houseLine_112 kf_X3_115 ?_
        refine J_cV (As := [.ref (zad Z 2)]) (st := []) (rc2 := (rmK 2).cells) (rs2 := (rmK 2).slots) C iX3_houseLine_115 lm_X3_85 yc_X3_take yv_X3_take (c_X3_take (k := 2) hLt hkf htk hend (by omega) (by omega) hm (by decide) (by decide) (by decide)) (q0 := 24) rfl rfl rfl rfl (rmK_le (by omega) (by decide)) (Nat.le_of_ble_eq_true rfl) rfl rfl ?_
        rintro _ _ ⟨i126, b126, e126, a126, s126, o126, g126, j126, hR126, hli126, hls126, rfl, rfl⟩
        refine J_st (.long (valT tk vf 2 (i125, b125, e125, a125, s125, o125, g125, j125)) :: []) rfl ?_
        refine J_pop2 C iX3_houseLine_118 rfl ?_
        refine J_aload_n C iX3_houseLine_119 rfl rfl ?_
        refine J_get (.int (sf i126)) 24 C iX3_houseLine_120 gf_X3_57 rfl rfl ?_
        refine J_istore [(7, .int (sf i126)), (5, .long (valT tk vf 40 (i123, b123, e123, a123, s123, o123, g123, j123))), (4, .int (sf i123)), (2, .long (valT tk vf 39 (i121, b121, e121, a121, s121, o121, g121, j121))), (1, .int (sf i121)), (0, .ref (p 0))] C iX3_houseLine_123 (by decide) rfl ?_
        refine J_aload_n C iX3_houseLine_125 rfl rfl ?_
        refine J_getsK C iX3_houseLine_126 kf_X3_106 ?_
        refine J_cV (As := [.ref (zad Z 40)]) (st := []) (rc2 := (rmK 2).cells) (rs2 := (rmK 2).slots) C iX3_houseLine_129 lm_X3_85 yc_X3_take yv_X3_take (c_X3_take (k := 40) hLt hkf htk hend (by omega) (by omega) hm (by decide) (by decide) (by decide)) (q0 := 24) rfl rfl rfl rfl (rmK_le (by omega) (by decide)) (Nat.le_of_ble_eq_true rfl) rfl rfl ?_
        rintro _ _ ⟨i127, b127, e127, a127, s127, o127, g127, j127, hR127, hli127, hls127, rfl, rfl⟩
        refine J_st (.long (valT tk vf 40 (i126, b126, e126, a126, s126, o126, g126, j126)) :: []) rfl ?_
        refine J_lstore [(8, .long (valT tk vf 40 (i126, b126, e126, a126, s126, o126, g126, j126))), (7, .int (sf i126)), (5, .long (valT tk vf 40 (i123, b123, e123, a123, s123, o123, g123, j123))), (4, .int (sf i123)), (2, .long (valT tk vf 39 (i121, b121, e121, a121, s121, o121, g121, j121))), (1, .int (sf i121)), (0, .ref (p 0))] C iX3_houseLine_132 (by decide) rfl ?_
        refine J_lload C iX3_houseLine_134 rfl ?_
        refine J_ldc2 30 C iX3_houseLine_136 (tsg_in (i := 1034) (by decide +kernel) rfl) ?_
        refine J_lcmp C iX3_houseLine_139 ?_
        refine J_ifleL 150 C iX3_houseLine_140 rfl (fun h140 => ?_) (fun h140 => ?_)
        · refine J_aload_n C iX3_houseLine_150 rfl rfl ?_
          refine J_get (.ref (b 0)) 24 C iX3_houseLine_151 gf_X3_31 rfl rfl ?_
          refine J_lload_n C iX3_houseLine_154 rfl rfl ?_
          refine J_lload C iX3_houseLine_155 rfl ?_
          refine J_l2i C iX3_houseLine_157 ?_
          refine J_lload C iX3_houseLine_158 rfl ?_
          refine J_l2i C iX3_houseLine_160 ?_
          refine J_cVb (As := [.long (valT tk vf 39 (i121, b121, e121, a121, s121, o121, g121, j121)), .int ((valT tk vf 40 (i123, b123, e123, a123, s123, o123, g123, j123)).toInt32), .int ((valT tk vf 40 (i126, b126, e126, a126, s126, o126, g126, j126)).toInt32)]) (st := []) (rc2 := (rmK 2).cells) (rs2 := (rmK 2).slots) C iX3_houseLine_161 lm_X3_120 yc_X0_addHouse yv_X0_addHouse (c_X0_addHouse (m := m) hm) (q0 := 0) rfl rfl rfl [] ((wPa Z p kk b (nI i127) (sf i127) (nw tk i127 b127) b127 e127 a127 y0 y1 y2 y3 y4 y5 ++ wTk Z kk t (nI (Lt + 1)) kf sf vf) ++ wTp Z t (nI tm) tb) rfl rfl (rmK_le (by omega) (by decide)) (Nat.le_of_ble_eq_true rfl) rfl rfl ?_
          rintro _ _ ⟨rfl, rfl⟩
          refine J_st ([]) rfl ?_
          refine J_ws (((wBk Z b L (nI (inc m 12)) lc (nI s127) (updCL nm m 12 (valT tk vf 39 (i121, b121, e121, a121, s121, o121, g121, j121))) (updC bP m 12 ((valT tk vf 40 (i123, b123, e123, a123, s123, o123, g123, j123)).toInt32)) (updC bH m 12 ((valT tk vf 40 (i126, b126, e126, a126, s126, o126, g126, j126)).toInt32)) o127 g127 j127 l0 l1 l2 l3 l4 l5 ++ wPa Z p kk b (nI i127) (sf i127) (nw tk i127 b127) b127 e127 a127 y0 y1 y2 y3 y4 y5) ++ wTk Z kk t (nI (Lt + 1)) kf sf vf) ++ wTp Z t (nI tm) tb) rfl ?_
          exact J_vret C E iX3_houseLine_164 ⟨i127, b127, e127, a127, s127, o127, g127, j127, _, _, _, by rw [houC, hR121, houH]; rw [houA, if_pos (show hnF nm (valT tk vf 39 (i121, b121, e121, a121, s121, o121, g121, j121)) m = -1 from h30), if_pos hs51, hR122, hR123, houF, houB, if_pos (show 99 < valT tk vf 40 (i123, b123, e123, a123, s123, o123, g123, j123) from h89), hR124, hR125, hR126, houG, houD, if_pos (show valT tk vf 40 (i126, b126, e126, a126, s126, o126, g126, j126) ≤ 30 from h140), hR127], by omega, by omega, rfl, rfl⟩
        · refine J_aload_n C iX3_houseLine_143 rfl rfl ?_
          refine J_iconst 5 C iX3_houseLine_144 rfl ?_
          refine J_iload C iX3_houseLine_145 rfl ?_
          refine J_cV (As := [.int 5, .int (sf i126)]) (st := []) (rc2 := (rmK 2).cells) (rs2 := (rmK 2).slots) C iX3_houseLine_147 lm_X3_96 yc_X3_tell yv_X3_tell (c_X3_tell hLt hkf htk hend (by omega) (by omega) hm) (q0 := 24) rfl rfl rfl rfl (rmK_le (by omega) (by decide)) (Nat.le_of_ble_eq_true rfl) rfl rfl ?_
          rintro _ _ ⟨i128, b128, e128, a128, s128, o128, g128, j128, hR128, hli128, hls128, rfl, rfl⟩
          refine J_st ([]) rfl ?_
          refine J_aload_n C iX3_houseLine_150 rfl rfl ?_
          refine J_get (.ref (b 0)) 24 C iX3_houseLine_151 gf_X3_31 rfl rfl ?_
          refine J_lload_n C iX3_houseLine_154 rfl rfl ?_
          refine J_lload C iX3_houseLine_155 rfl ?_
          refine J_l2i C iX3_houseLine_157 ?_
          refine J_lload C iX3_houseLine_158 rfl ?_
          refine J_l2i C iX3_houseLine_160 ?_
          refine J_cVb (As := [.long (valT tk vf 39 (i121, b121, e121, a121, s121, o121, g121, j121)), .int ((valT tk vf 40 (i123, b123, e123, a123, s123, o123, g123, j123)).toInt32), .int ((valT tk vf 40 (i126, b126, e126, a126, s126, o126, g126, j126)).toInt32)]) (st := []) (rc2 := (rmK 2).cells) (rs2 := (rmK 2).slots) C iX3_houseLine_161 lm_X3_120 yc_X0_addHouse yv_X0_addHouse (c_X0_addHouse (m := m) hm) (q0 := 0) rfl rfl rfl [] ((wPa Z p kk b (nI i128) (sf i128) (nw tk i128 b128) b128 e128 a128 y0 y1 y2 y3 y4 y5 ++ wTk Z kk t (nI (Lt + 1)) kf sf vf) ++ wTp Z t (nI tm) tb) rfl rfl (rmK_le (by omega) (by decide)) (Nat.le_of_ble_eq_true rfl) rfl rfl ?_
          rintro _ _ ⟨rfl, rfl⟩
          refine J_st ([]) rfl ?_
          refine J_ws (((wBk Z b L (nI (inc m 12)) lc (nI s128) (updCL nm m 12 (valT tk vf 39 (i121, b121, e121, a121, s121, o121, g121, j121))) (updC bP m 12 ((valT tk vf 40 (i123, b123, e123, a123, s123, o123, g123, j123)).toInt32)) (updC bH m 12 ((valT tk vf 40 (i126, b126, e126, a126, s126, o126, g126, j126)).toInt32)) o128 g128 j128 l0 l1 l2 l3 l4 l5 ++ wPa Z p kk b (nI i128) (sf i128) (nw tk i128 b128) b128 e128 a128 y0 y1 y2 y3 y4 y5) ++ wTk Z kk t (nI (Lt + 1)) kf sf vf) ++ wTp Z t (nI tm) tb) rfl ?_
          exact J_vret C E iX3_houseLine_164 ⟨i128, b128, e128, a128, s128, o128, g128, j128, _, _, _, by rw [houC, hR121, houH]; rw [houA, if_pos (show hnF nm (valT tk vf 39 (i121, b121, e121, a121, s121, o121, g121, j121)) m = -1 from h30), if_pos hs51, hR122, hR123, houF, houB, if_pos (show 99 < valT tk vf 40 (i123, b123, e123, a123, s123, o123, g123, j123) from h89), hR124, hR125, hR126, houG, houD, if_neg (show ¬ valT tk vf 40 (i126, b126, e126, a126, s126, o126, g126, j126) ≤ 30 from h140), hR127, hR128], by omega, by omega, rfl, rfl⟩
      · refine J_aload_n C iX3_houseLine_92 rfl rfl ?_
        refine J_get (.ref (b 0)) 24 C iX3_houseLine_93 gf_X3_31 rfl rfl ?_
        refine J_lload C iX3_houseLine_96 rfl ?_
        refine J_cVb (As := [.long (valT tk vf 40 (i123, b123, e123, a123, s123, o123, g123, j123))]) (st := []) (rc2 := (rmK 2).cells) (rs2 := (rmK 2).slots) C iX3_houseLine_98 lm_X3_111 yc_X0_isTaken yv_X0_isTaken (c_X0_isTaken (m := m) hm) (q0 := 0) rfl rfl rfl [] ((wPa Z p kk b (nI i124) (sf i124) (nw tk i124 b124) b124 e124 a124 y0 y1 y2 y3 y4 y5 ++ wTk Z kk t (nI (Lt + 1)) kf sf vf) ++ wTp Z t (nI tm) tb) rfl rfl (rmK_le (by omega) (by decide)) (Nat.le_of_ble_eq_true rfl) rfl rfl ?_
        rintro _ _ ⟨rfl, rfl⟩
        refine J_st (.int (b2i (tkF bP (valT tk vf 40 (i123, b123, e123, a123, s123, o123, g123, j123)) m)) :: []) rfl ?_
        refine J_ws (((wBk Z b L (nI m) lc (nI s124) nm bP bH o124 g124 j124 l0 l1 l2 l3 l4 l5 ++ wPa Z p kk b (nI i124) (sf i124) (nw tk i124 b124) b124 e124 a124 y0 y1 y2 y3 y4 y5) ++ wTk Z kk t (nI (Lt + 1)) kf sf vf) ++ wTp Z t (nI tm) tb) rfl ?_
        refine J_ifeqb 111 C iX3_houseLine_101 rfl (fun h101 => ?_) (fun h101 => ?_)
        · refine J_aload_n C iX3_houseLine_111 rfl rfl ?_
          refine J_getsK C iX3_houseLine_112 kf_X3_115 ?_
          refine J_cV (As := [.ref (zad Z 2)]) (st := []) (rc2 := (rmK 2).cells) (rs2 := (rmK 2).slots) C iX3_houseLine_115 lm_X3_85 yc_X3_take yv_X3_take (c_X3_take (k := 2) hLt hkf htk hend (by omega) (by omega) hm (by decide) (by decide) (by decide)) (q0 := 24) rfl rfl rfl rfl (rmK_le (by omega) (by decide)) (Nat.le_of_ble_eq_true rfl) rfl rfl ?_
          rintro _ _ ⟨i129, b129, e129, a129, s129, o129, g129, j129, hR129, hli129, hls129, rfl, rfl⟩
          refine J_st (.long (valT tk vf 2 (i124, b124, e124, a124, s124, o124, g124, j124)) :: []) rfl ?_
          refine J_pop2 C iX3_houseLine_118 rfl ?_
          refine J_aload_n C iX3_houseLine_119 rfl rfl ?_
          refine J_get (.int (sf i129)) 24 C iX3_houseLine_120 gf_X3_57 rfl rfl ?_
          refine J_istore [(7, .int (sf i129)), (5, .long (valT tk vf 40 (i123, b123, e123, a123, s123, o123, g123, j123))), (4, .int (sf i123)), (2, .long (valT tk vf 39 (i121, b121, e121, a121, s121, o121, g121, j121))), (1, .int (sf i121)), (0, .ref (p 0))] C iX3_houseLine_123 (by decide) rfl ?_
          refine J_aload_n C iX3_houseLine_125 rfl rfl ?_
          refine J_getsK C iX3_houseLine_126 kf_X3_106 ?_
          refine J_cV (As := [.ref (zad Z 40)]) (st := []) (rc2 := (rmK 2).cells) (rs2 := (rmK 2).slots) C iX3_houseLine_129 lm_X3_85 yc_X3_take yv_X3_take (c_X3_take (k := 40) hLt hkf htk hend (by omega) (by omega) hm (by decide) (by decide) (by decide)) (q0 := 24) rfl rfl rfl rfl (rmK_le (by omega) (by decide)) (Nat.le_of_ble_eq_true rfl) rfl rfl ?_
          rintro _ _ ⟨i130, b130, e130, a130, s130, o130, g130, j130, hR130, hli130, hls130, rfl, rfl⟩
          refine J_st (.long (valT tk vf 40 (i129, b129, e129, a129, s129, o129, g129, j129)) :: []) rfl ?_
          refine J_lstore [(8, .long (valT tk vf 40 (i129, b129, e129, a129, s129, o129, g129, j129))), (7, .int (sf i129)), (5, .long (valT tk vf 40 (i123, b123, e123, a123, s123, o123, g123, j123))), (4, .int (sf i123)), (2, .long (valT tk vf 39 (i121, b121, e121, a121, s121, o121, g121, j121))), (1, .int (sf i121)), (0, .ref (p 0))] C iX3_houseLine_132 (by decide) rfl ?_
          refine J_lload C iX3_houseLine_134 rfl ?_
          refine J_ldc2 30 C iX3_houseLine_136 (tsg_in (i := 1034) (by decide +kernel) rfl) ?_
          refine J_lcmp C iX3_houseLine_139 ?_
          refine J_ifleL 150 C iX3_houseLine_140 rfl (fun h140 => ?_) (fun h140 => ?_)
          · refine J_aload_n C iX3_houseLine_150 rfl rfl ?_
            refine J_get (.ref (b 0)) 24 C iX3_houseLine_151 gf_X3_31 rfl rfl ?_
            refine J_lload_n C iX3_houseLine_154 rfl rfl ?_
            refine J_lload C iX3_houseLine_155 rfl ?_
            refine J_l2i C iX3_houseLine_157 ?_
            refine J_lload C iX3_houseLine_158 rfl ?_
            refine J_l2i C iX3_houseLine_160 ?_
            refine J_cVb (As := [.long (valT tk vf 39 (i121, b121, e121, a121, s121, o121, g121, j121)), .int ((valT tk vf 40 (i123, b123, e123, a123, s123, o123, g123, j123)).toInt32), .int ((valT tk vf 40 (i129, b129, e129, a129, s129, o129, g129, j129)).toInt32)]) (st := []) (rc2 := (rmK 2).cells) (rs2 := (rmK 2).slots) C iX3_houseLine_161 lm_X3_120 yc_X0_addHouse yv_X0_addHouse (c_X0_addHouse (m := m) hm) (q0 := 0) rfl rfl rfl [] ((wPa Z p kk b (nI i130) (sf i130) (nw tk i130 b130) b130 e130 a130 y0 y1 y2 y3 y4 y5 ++ wTk Z kk t (nI (Lt + 1)) kf sf vf) ++ wTp Z t (nI tm) tb) rfl rfl (rmK_le (by omega) (by decide)) (Nat.le_of_ble_eq_true rfl) rfl rfl ?_
            rintro _ _ ⟨rfl, rfl⟩
            refine J_st ([]) rfl ?_
            refine J_ws (((wBk Z b L (nI (inc m 12)) lc (nI s130) (updCL nm m 12 (valT tk vf 39 (i121, b121, e121, a121, s121, o121, g121, j121))) (updC bP m 12 ((valT tk vf 40 (i123, b123, e123, a123, s123, o123, g123, j123)).toInt32)) (updC bH m 12 ((valT tk vf 40 (i129, b129, e129, a129, s129, o129, g129, j129)).toInt32)) o130 g130 j130 l0 l1 l2 l3 l4 l5 ++ wPa Z p kk b (nI i130) (sf i130) (nw tk i130 b130) b130 e130 a130 y0 y1 y2 y3 y4 y5) ++ wTk Z kk t (nI (Lt + 1)) kf sf vf) ++ wTp Z t (nI tm) tb) rfl ?_
            exact J_vret C E iX3_houseLine_164 ⟨i130, b130, e130, a130, s130, o130, g130, j130, _, _, _, by rw [houC, hR121, houH]; rw [houA, if_pos (show hnF nm (valT tk vf 39 (i121, b121, e121, a121, s121, o121, g121, j121)) m = -1 from h30), if_pos hs51, hR122, hR123, houF, houB, if_neg (show ¬ 99 < valT tk vf 40 (i123, b123, e123, a123, s123, o123, g123, j123) from h89), if_neg (show ¬ tkF bP (valT tk vf 40 (i123, b123, e123, a123, s123, o123, g123, j123)) m = true from (by rw [h101]; decide)), hR124, hR129, houG, houD, if_pos (show valT tk vf 40 (i129, b129, e129, a129, s129, o129, g129, j129) ≤ 30 from h140), hR130], by omega, by omega, rfl, rfl⟩
          · refine J_aload_n C iX3_houseLine_143 rfl rfl ?_
            refine J_iconst 5 C iX3_houseLine_144 rfl ?_
            refine J_iload C iX3_houseLine_145 rfl ?_
            refine J_cV (As := [.int 5, .int (sf i129)]) (st := []) (rc2 := (rmK 2).cells) (rs2 := (rmK 2).slots) C iX3_houseLine_147 lm_X3_96 yc_X3_tell yv_X3_tell (c_X3_tell hLt hkf htk hend (by omega) (by omega) hm) (q0 := 24) rfl rfl rfl rfl (rmK_le (by omega) (by decide)) (Nat.le_of_ble_eq_true rfl) rfl rfl ?_
            rintro _ _ ⟨i131, b131, e131, a131, s131, o131, g131, j131, hR131, hli131, hls131, rfl, rfl⟩
            refine J_st ([]) rfl ?_
            refine J_aload_n C iX3_houseLine_150 rfl rfl ?_
            refine J_get (.ref (b 0)) 24 C iX3_houseLine_151 gf_X3_31 rfl rfl ?_
            refine J_lload_n C iX3_houseLine_154 rfl rfl ?_
            refine J_lload C iX3_houseLine_155 rfl ?_
            refine J_l2i C iX3_houseLine_157 ?_
            refine J_lload C iX3_houseLine_158 rfl ?_
            refine J_l2i C iX3_houseLine_160 ?_
            refine J_cVb (As := [.long (valT tk vf 39 (i121, b121, e121, a121, s121, o121, g121, j121)), .int ((valT tk vf 40 (i123, b123, e123, a123, s123, o123, g123, j123)).toInt32), .int ((valT tk vf 40 (i129, b129, e129, a129, s129, o129, g129, j129)).toInt32)]) (st := []) (rc2 := (rmK 2).cells) (rs2 := (rmK 2).slots) C iX3_houseLine_161 lm_X3_120 yc_X0_addHouse yv_X0_addHouse (c_X0_addHouse (m := m) hm) (q0 := 0) rfl rfl rfl [] ((wPa Z p kk b (nI i131) (sf i131) (nw tk i131 b131) b131 e131 a131 y0 y1 y2 y3 y4 y5 ++ wTk Z kk t (nI (Lt + 1)) kf sf vf) ++ wTp Z t (nI tm) tb) rfl rfl (rmK_le (by omega) (by decide)) (Nat.le_of_ble_eq_true rfl) rfl rfl ?_
            rintro _ _ ⟨rfl, rfl⟩
            refine J_st ([]) rfl ?_
            refine J_ws (((wBk Z b L (nI (inc m 12)) lc (nI s131) (updCL nm m 12 (valT tk vf 39 (i121, b121, e121, a121, s121, o121, g121, j121))) (updC bP m 12 ((valT tk vf 40 (i123, b123, e123, a123, s123, o123, g123, j123)).toInt32)) (updC bH m 12 ((valT tk vf 40 (i129, b129, e129, a129, s129, o129, g129, j129)).toInt32)) o131 g131 j131 l0 l1 l2 l3 l4 l5 ++ wPa Z p kk b (nI i131) (sf i131) (nw tk i131 b131) b131 e131 a131 y0 y1 y2 y3 y4 y5) ++ wTk Z kk t (nI (Lt + 1)) kf sf vf) ++ wTp Z t (nI tm) tb) rfl ?_
            exact J_vret C E iX3_houseLine_164 ⟨i131, b131, e131, a131, s131, o131, g131, j131, _, _, _, by rw [houC, hR121, houH]; rw [houA, if_pos (show hnF nm (valT tk vf 39 (i121, b121, e121, a121, s121, o121, g121, j121)) m = -1 from h30), if_pos hs51, hR122, hR123, houF, houB, if_neg (show ¬ 99 < valT tk vf 40 (i123, b123, e123, a123, s123, o123, g123, j123) from h89), if_neg (show ¬ tkF bP (valT tk vf 40 (i123, b123, e123, a123, s123, o123, g123, j123)) m = true from (by rw [h101]; decide)), hR124, hR129, houG, houD, if_neg (show ¬ valT tk vf 40 (i129, b129, e129, a129, s129, o129, g129, j129) ≤ 30 from h140), hR130, hR131], by omega, by omega, rfl, rfl⟩
        · refine J_aload_n C iX3_houseLine_104 rfl rfl ?_
          refine J_iconst 5 C iX3_houseLine_105 rfl ?_
          refine J_iload C iX3_houseLine_106 rfl ?_
          refine J_cV (As := [.int 5, .int (sf i123)]) (st := []) (rc2 := (rmK 2).cells) (rs2 := (rmK 2).slots) C iX3_houseLine_108 lm_X3_96 yc_X3_tell yv_X3_tell (c_X3_tell hLt hkf htk hend (by omega) (by omega) hm) (q0 := 24) rfl rfl rfl rfl (rmK_le (by omega) (by decide)) (Nat.le_of_ble_eq_true rfl) rfl rfl ?_
          rintro _ _ ⟨i132, b132, e132, a132, s132, o132, g132, j132, hR132, hli132, hls132, rfl, rfl⟩
          refine J_st ([]) rfl ?_
          refine J_aload_n C iX3_houseLine_111 rfl rfl ?_
          refine J_getsK C iX3_houseLine_112 kf_X3_115 ?_
          refine J_cV (As := [.ref (zad Z 2)]) (st := []) (rc2 := (rmK 2).cells) (rs2 := (rmK 2).slots) C iX3_houseLine_115 lm_X3_85 yc_X3_take yv_X3_take (c_X3_take (k := 2) hLt hkf htk hend (by omega) (by omega) hm (by decide) (by decide) (by decide)) (q0 := 24) rfl rfl rfl rfl (rmK_le (by omega) (by decide)) (Nat.le_of_ble_eq_true rfl) rfl rfl ?_
          rintro _ _ ⟨i133, b133, e133, a133, s133, o133, g133, j133, hR133, hli133, hls133, rfl, rfl⟩
          refine J_st (.long (valT tk vf 2 (i132, b132, e132, a132, s132, o132, g132, j132)) :: []) rfl ?_
          refine J_pop2 C iX3_houseLine_118 rfl ?_
          refine J_aload_n C iX3_houseLine_119 rfl rfl ?_
          refine J_get (.int (sf i133)) 24 C iX3_houseLine_120 gf_X3_57 rfl rfl ?_
          refine J_istore [(7, .int (sf i133)), (5, .long (valT tk vf 40 (i123, b123, e123, a123, s123, o123, g123, j123))), (4, .int (sf i123)), (2, .long (valT tk vf 39 (i121, b121, e121, a121, s121, o121, g121, j121))), (1, .int (sf i121)), (0, .ref (p 0))] C iX3_houseLine_123 (by decide) rfl ?_
          refine J_aload_n C iX3_houseLine_125 rfl rfl ?_
          refine J_getsK C iX3_houseLine_126 kf_X3_106 ?_
          refine J_cV (As := [.ref (zad Z 40)]) (st := []) (rc2 := (rmK 2).cells) (rs2 := (rmK 2).slots) C iX3_houseLine_129 lm_X3_85 yc_X3_take yv_X3_take (c_X3_take (k := 40) hLt hkf htk hend (by omega) (by omega) hm (by decide) (by decide) (by decide)) (q0 := 24) rfl rfl rfl rfl (rmK_le (by omega) (by decide)) (Nat.le_of_ble_eq_true rfl) rfl rfl ?_
          rintro _ _ ⟨i134, b134, e134, a134, s134, o134, g134, j134, hR134, hli134, hls134, rfl, rfl⟩
          refine J_st (.long (valT tk vf 40 (i133, b133, e133, a133, s133, o133, g133, j133)) :: []) rfl ?_
          refine J_lstore [(8, .long (valT tk vf 40 (i133, b133, e133, a133, s133, o133, g133, j133))), (7, .int (sf i133)), (5, .long (valT tk vf 40 (i123, b123, e123, a123, s123, o123, g123, j123))), (4, .int (sf i123)), (2, .long (valT tk vf 39 (i121, b121, e121, a121, s121, o121, g121, j121))), (1, .int (sf i121)), (0, .ref (p 0))] C iX3_houseLine_132 (by decide) rfl ?_
          refine J_lload C iX3_houseLine_134 rfl ?_
          refine J_ldc2 30 C iX3_houseLine_136 (tsg_in (i := 1034) (by decide +kernel) rfl) ?_
          refine J_lcmp C iX3_houseLine_139 ?_
          refine J_ifleL 150 C iX3_houseLine_140 rfl (fun h140 => ?_) (fun h140 => ?_)
          · refine J_aload_n C iX3_houseLine_150 rfl rfl ?_
            refine J_get (.ref (b 0)) 24 C iX3_houseLine_151 gf_X3_31 rfl rfl ?_
            refine J_lload_n C iX3_houseLine_154 rfl rfl ?_
            refine J_lload C iX3_houseLine_155 rfl ?_
            refine J_l2i C iX3_houseLine_157 ?_
            refine J_lload C iX3_houseLine_158 rfl ?_
            refine J_l2i C iX3_houseLine_160 ?_
            refine J_cVb (As := [.long (valT tk vf 39 (i121, b121, e121, a121, s121, o121, g121, j121)), .int ((valT tk vf 40 (i123, b123, e123, a123, s123, o123, g123, j123)).toInt32), .int ((valT tk vf 40 (i133, b133, e133, a133, s133, o133, g133, j133)).toInt32)]) (st := []) (rc2 := (rmK 2).cells) (rs2 := (rmK 2).slots) C iX3_houseLine_161 lm_X3_120 yc_X0_addHouse yv_X0_addHouse (c_X0_addHouse (m := m) hm) (q0 := 0) rfl rfl rfl [] ((wPa Z p kk b (nI i134) (sf i134) (nw tk i134 b134) b134 e134 a134 y0 y1 y2 y3 y4 y5 ++ wTk Z kk t (nI (Lt + 1)) kf sf vf) ++ wTp Z t (nI tm) tb) rfl rfl (rmK_le (by omega) (by decide)) (Nat.le_of_ble_eq_true rfl) rfl rfl ?_
            rintro _ _ ⟨rfl, rfl⟩
            refine J_st ([]) rfl ?_
            refine J_ws (((wBk Z b L (nI (inc m 12)) lc (nI s134) (updCL nm m 12 (valT tk vf 39 (i121, b121, e121, a121, s121, o121, g121, j121))) (updC bP m 12 ((valT tk vf 40 (i123, b123, e123, a123, s123, o123, g123, j123)).toInt32)) (updC bH m 12 ((valT tk vf 40 (i133, b133, e133, a133, s133, o133, g133, j133)).toInt32)) o134 g134 j134 l0 l1 l2 l3 l4 l5 ++ wPa Z p kk b (nI i134) (sf i134) (nw tk i134 b134) b134 e134 a134 y0 y1 y2 y3 y4 y5) ++ wTk Z kk t (nI (Lt + 1)) kf sf vf) ++ wTp Z t (nI tm) tb) rfl ?_
            exact J_vret C E iX3_houseLine_164 ⟨i134, b134, e134, a134, s134, o134, g134, j134, _, _, _, by rw [houC, hR121, houH]; rw [houA, if_pos (show hnF nm (valT tk vf 39 (i121, b121, e121, a121, s121, o121, g121, j121)) m = -1 from h30), if_pos hs51, hR122, hR123, houF, houB, if_neg (show ¬ 99 < valT tk vf 40 (i123, b123, e123, a123, s123, o123, g123, j123) from h89), if_pos (show tkF bP (valT tk vf 40 (i123, b123, e123, a123, s123, o123, g123, j123)) m = true from h101), hR124, hR132, hR133, houG, houD, if_pos (show valT tk vf 40 (i133, b133, e133, a133, s133, o133, g133, j133) ≤ 30 from h140), hR134], by omega, by omega, rfl, rfl⟩
          · refine J_aload_n C iX3_houseLine_143 rfl rfl ?_
            refine J_iconst 5 C iX3_houseLine_144 rfl ?_
            refine J_iload C iX3_houseLine_145 rfl ?_
            refine J_cV (As := [.int 5, .int (sf i133)]) (st := []) (rc2 := (rmK 2).cells) (rs2 := (rmK 2).slots) C iX3_houseLine_147 lm_X3_96 yc_X3_tell yv_X3_tell (c_X3_tell hLt hkf htk hend (by omega) (by omega) hm) (q0 := 24) rfl rfl rfl rfl (rmK_le (by omega) (by decide)) (Nat.le_of_ble_eq_true rfl) rfl rfl ?_
            rintro _ _ ⟨i135, b135, e135, a135, s135, o135, g135, j135, hR135, hli135, hls135, rfl, rfl⟩
            refine J_st ([]) rfl ?_
            refine J_aload_n C iX3_houseLine_150 rfl rfl ?_
            refine J_get (.ref (b 0)) 24 C iX3_houseLine_151 gf_X3_31 rfl rfl ?_
            refine J_lload_n C iX3_houseLine_154 rfl rfl ?_
            refine J_lload C iX3_houseLine_155 rfl ?_
            refine J_l2i C iX3_houseLine_157 ?_
            refine J_lload C iX3_houseLine_158 rfl ?_
            refine J_l2i C iX3_houseLine_160 ?_
            refine J_cVb (As := [.long (valT tk vf 39 (i121, b121, e121, a121, s121, o121, g121, j121)), .int ((valT tk vf 40 (i123, b123, e123, a123, s123, o123, g123, j123)).toInt32), .int ((valT tk vf 40 (i133, b133, e133, a133, s133, o133, g133, j133)).toInt32)]) (st := []) (rc2 := (rmK 2).cells) (rs2 := (rmK 2).slots) C iX3_houseLine_161 lm_X3_120 yc_X0_addHouse yv_X0_addHouse (c_X0_addHouse (m := m) hm) (q0 := 0) rfl rfl rfl [] ((wPa Z p kk b (nI i135) (sf i135) (nw tk i135 b135) b135 e135 a135 y0 y1 y2 y3 y4 y5 ++ wTk Z kk t (nI (Lt + 1)) kf sf vf) ++ wTp Z t (nI tm) tb) rfl rfl (rmK_le (by omega) (by decide)) (Nat.le_of_ble_eq_true rfl) rfl rfl ?_
            rintro _ _ ⟨rfl, rfl⟩
            refine J_st ([]) rfl ?_
            refine J_ws (((wBk Z b L (nI (inc m 12)) lc (nI s135) (updCL nm m 12 (valT tk vf 39 (i121, b121, e121, a121, s121, o121, g121, j121))) (updC bP m 12 ((valT tk vf 40 (i123, b123, e123, a123, s123, o123, g123, j123)).toInt32)) (updC bH m 12 ((valT tk vf 40 (i133, b133, e133, a133, s133, o133, g133, j133)).toInt32)) o135 g135 j135 l0 l1 l2 l3 l4 l5 ++ wPa Z p kk b (nI i135) (sf i135) (nw tk i135 b135) b135 e135 a135 y0 y1 y2 y3 y4 y5) ++ wTk Z kk t (nI (Lt + 1)) kf sf vf) ++ wTp Z t (nI tm) tb) rfl ?_
            exact J_vret C E iX3_houseLine_164 ⟨i135, b135, e135, a135, s135, o135, g135, j135, _, _, _, by rw [houC, hR121, houH]; rw [houA, if_pos (show hnF nm (valT tk vf 39 (i121, b121, e121, a121, s121, o121, g121, j121)) m = -1 from h30), if_pos hs51, hR122, hR123, houF, houB, if_neg (show ¬ 99 < valT tk vf 40 (i123, b123, e123, a123, s123, o123, g123, j123) from h89), if_pos (show tkF bP (valT tk vf 40 (i123, b123, e123, a123, s123, o123, g123, j123)) m = true from h101), hR124, hR132, hR133, houG, houD, if_neg (show ¬ valT tk vf 40 (i133, b133, e133, a133, s133, o133, g133, j133) ≤ 30 from h140), hR134, hR135], by omega, by omega, rfl, rfl⟩
    · refine J_icmplt 60 C iX3_houseLine_51 rfl (fun h51 => absurd h51 (nI_nlt (a := m) (b := 12) (by omega) (by omega))) (fun h51 => ?_)
      refine J_aload_n C iX3_houseLine_54 rfl rfl ?_
      refine J_iconst 4 C iX3_houseLine_55 rfl ?_
      refine J_iload_n C iX3_houseLine_56 rfl rfl ?_
      refine J_cV (As := [.int 4, .int (sf i121)]) (st := []) (rc2 := (rmK 2).cells) (rs2 := (rmK 2).slots) C iX3_houseLine_57 lm_X3_96 yc_X3_tell yv_X3_tell (c_X3_tell hLt hkf htk hend (by omega) (by omega) hm) (q0 := 24) rfl rfl rfl rfl (rmK_le (by omega) (by decide)) (Nat.le_of_ble_eq_true rfl) rfl rfl ?_
      rintro _ _ ⟨i136, b136, e136, a136, s136, o136, g136, j136, hR136, hli136, hls136, rfl, rfl⟩
      refine J_st ([]) rfl ?_
      refine J_aload_n C iX3_houseLine_60 rfl rfl ?_
      refine J_getsK C iX3_houseLine_61 kf_X3_103 ?_
      refine J_cV (As := [.ref (zad Z 1)]) (st := []) (rc2 := (rmK 2).cells) (rs2 := (rmK 2).slots) C iX3_houseLine_64 lm_X3_85 yc_X3_take yv_X3_take (c_X3_take (k := 1) hLt hkf htk hend (by omega) (by omega) hm (by decide) (by decide) (by decide)) (q0 := 24) rfl rfl rfl rfl (rmK_le (by omega) (by decide)) (Nat.le_of_ble_eq_true rfl) rfl rfl ?_
      rintro _ _ ⟨i137, b137, e137, a137, s137, o137, g137, j137, hR137, hli137, hls137, rfl, rfl⟩
      refine J_st (.long (valT tk vf 1 (i136, b136, e136, a136, s136, o136, g136, j136)) :: []) rfl ?_
      refine J_pop2 C iX3_houseLine_67 rfl ?_
      refine J_aload_n C iX3_houseLine_68 rfl rfl ?_
      refine J_get (.int (sf i137)) 24 C iX3_houseLine_69 gf_X3_57 rfl rfl ?_
      refine J_istore [(4, .int (sf i137)), (2, .long (valT tk vf 39 (i121, b121, e121, a121, s121, o121, g121, j121))), (1, .int (sf i121)), (0, .ref (p 0))] C iX3_houseLine_72 (by decide) rfl ?_
      refine J_aload_n C iX3_houseLine_74 rfl rfl ?_
      refine J_getsK C iX3_houseLine_75 kf_X3_106 ?_
      refine J_cV (As := [.ref (zad Z 40)]) (st := []) (rc2 := (rmK 2).cells) (rs2 := (rmK 2).slots) C iX3_houseLine_78 lm_X3_85 yc_X3_take yv_X3_take (c_X3_take (k := 40) hLt hkf htk hend (by omega) (by omega) hm (by decide) (by decide) (by decide)) (q0 := 24) rfl rfl rfl rfl (rmK_le (by omega) (by decide)) (Nat.le_of_ble_eq_true rfl) rfl rfl ?_
      rintro _ _ ⟨i138, b138, e138, a138, s138, o138, g138, j138, hR138, hli138, hls138, rfl, rfl⟩
      refine J_st (.long (valT tk vf 40 (i137, b137, e137, a137, s137, o137, g137, j137)) :: []) rfl ?_
      refine J_lstore [(5, .long (valT tk vf 40 (i137, b137, e137, a137, s137, o137, g137, j137))), (4, .int (sf i137)), (2, .long (valT tk vf 39 (i121, b121, e121, a121, s121, o121, g121, j121))), (1, .int (sf i121)), (0, .ref (p 0))] C iX3_houseLine_81 (by decide) rfl ?_
      refine J_lload C iX3_houseLine_83 rfl ?_
      refine J_ldc2 99 C iX3_houseLine_85 (tsg_in (i := 1027) (by decide +kernel) rfl) ?_
      refine J_lcmp C iX3_houseLine_88 ?_
      refine J_ifgtL 104 C iX3_houseLine_89 rfl (fun h89 => ?_) (fun h89 => ?_)
      · refine J_aload_n C iX3_houseLine_104 rfl rfl ?_
        refine J_iconst 5 C iX3_houseLine_105 rfl ?_
        refine J_iload C iX3_houseLine_106 rfl ?_
        refine J_cV (As := [.int 5, .int (sf i137)]) (st := []) (rc2 := (rmK 2).cells) (rs2 := (rmK 2).slots) C iX3_houseLine_108 lm_X3_96 yc_X3_tell yv_X3_tell (c_X3_tell hLt hkf htk hend (by omega) (by omega) hm) (q0 := 24) rfl rfl rfl rfl (rmK_le (by omega) (by decide)) (Nat.le_of_ble_eq_true rfl) rfl rfl ?_
        rintro _ _ ⟨i139, b139, e139, a139, s139, o139, g139, j139, hR139, hli139, hls139, rfl, rfl⟩
        refine J_st ([]) rfl ?_
        refine J_aload_n C iX3_houseLine_111 rfl rfl ?_
        refine J_getsK C iX3_houseLine_112 kf_X3_115 ?_
        refine J_cV (As := [.ref (zad Z 2)]) (st := []) (rc2 := (rmK 2).cells) (rs2 := (rmK 2).slots) C iX3_houseLine_115 lm_X3_85 yc_X3_take yv_X3_take (c_X3_take (k := 2) hLt hkf htk hend (by omega) (by omega) hm (by decide) (by decide) (by decide)) (q0 := 24) rfl rfl rfl rfl (rmK_le (by omega) (by decide)) (Nat.le_of_ble_eq_true rfl) rfl rfl ?_
        rintro _ _ ⟨i140, b140, e140, a140, s140, o140, g140, j140, hR140, hli140, hls140, rfl, rfl⟩
        refine J_st (.long (valT tk vf 2 (i139, b139, e139, a139, s139, o139, g139, j139)) :: []) rfl ?_
        refine J_pop2 C iX3_houseLine_118 rfl ?_
        refine J_aload_n C iX3_houseLine_119 rfl rfl ?_
        refine J_get (.int (sf i140)) 24 C iX3_houseLine_120 gf_X3_57 rfl rfl ?_
        refine J_istore [(7, .int (sf i140)), (5, .long (valT tk vf 40 (i137, b137, e137, a137, s137, o137, g137, j137))), (4, .int (sf i137)), (2, .long (valT tk vf 39 (i121, b121, e121, a121, s121, o121, g121, j121))), (1, .int (sf i121)), (0, .ref (p 0))] C iX3_houseLine_123 (by decide) rfl ?_
        refine J_aload_n C iX3_houseLine_125 rfl rfl ?_
        refine J_getsK C iX3_houseLine_126 kf_X3_106 ?_
        refine J_cV (As := [.ref (zad Z 40)]) (st := []) (rc2 := (rmK 2).cells) (rs2 := (rmK 2).slots) C iX3_houseLine_129 lm_X3_85 yc_X3_take yv_X3_take (c_X3_take (k := 40) hLt hkf htk hend (by omega) (by omega) hm (by decide) (by decide) (by decide)) (q0 := 24) rfl rfl rfl rfl (rmK_le (by omega) (by decide)) (Nat.le_of_ble_eq_true rfl) rfl rfl ?_
        rintro _ _ ⟨i141, b141, e141, a141, s141, o141, g141, j141, hR141, hli141, hls141, rfl, rfl⟩
        refine J_st (.long (valT tk vf 40 (i140, b140, e140, a140, s140, o140, g140, j140)) :: []) rfl ?_
        refine J_lstore [(8, .long (valT tk vf 40 (i140, b140, e140, a140, s140, o140, g140, j140))), (7, .int (sf i140)), (5, .long (valT tk vf 40 (i137, b137, e137, a137, s137, o137, g137, j137))), (4, .int (sf i137)), (2, .long (valT tk vf 39 (i121, b121, e121, a121, s121, o121, g121, j121))), (1, .int (sf i121)), (0, .ref (p 0))] C iX3_houseLine_132 (by decide) rfl ?_
        refine J_lload C iX3_houseLine_134 rfl ?_
        refine J_ldc2 30 C iX3_houseLine_136 (tsg_in (i := 1034) (by decide +kernel) rfl) ?_
        refine J_lcmp C iX3_houseLine_139 ?_
        refine J_ifleL 150 C iX3_houseLine_140 rfl (fun h140 => ?_) (fun h140 => ?_)
        · refine J_aload_n C iX3_houseLine_150 rfl rfl ?_
          refine J_get (.ref (b 0)) 24 C iX3_houseLine_151 gf_X3_31 rfl rfl ?_
          refine J_lload_n C iX3_houseLine_154 rfl rfl ?_
          refine J_lload C iX3_houseLine_155 rfl ?_
          refine J_l2i C iX3_houseLine_157 ?_
          refine J_lload C iX3_houseLine_158 rfl ?_
          refine J_l2i C iX3_houseLine_160 ?_
          refine J_cVb (As := [.long (valT tk vf 39 (i121, b121, e121, a121, s121, o121, g121, j121)), .int ((valT tk vf 40 (i137, b137, e137, a137, s137, o137, g137, j137)).toInt32), .int ((valT tk vf 40 (i140, b140, e140, a140, s140, o140, g140, j140)).toInt32)]) (st := []) (rc2 := (rmK 2).cells) (rs2 := (rmK 2).slots) C iX3_houseLine_161 lm_X3_120 yc_X0_addHouse yv_X0_addHouse (c_X0_addHouse (m := m) hm) (q0 := 0) rfl rfl rfl [] ((wPa Z p kk b (nI i141) (sf i141) (nw tk i141 b141) b141 e141 a141 y0 y1 y2 y3 y4 y5 ++ wTk Z kk t (nI (Lt + 1)) kf sf vf) ++ wTp Z t (nI tm) tb) rfl rfl (rmK_le (by omega) (by decide)) (Nat.le_of_ble_eq_true rfl) rfl rfl ?_
          rintro _ _ ⟨rfl, rfl⟩
          refine J_st ([]) rfl ?_
          refine J_ws (((wBk Z b L (nI (inc m 12)) lc (nI s141) (updCL nm m 12 (valT tk vf 39 (i121, b121, e121, a121, s121, o121, g121, j121))) (updC bP m 12 ((valT tk vf 40 (i137, b137, e137, a137, s137, o137, g137, j137)).toInt32)) (updC bH m 12 ((valT tk vf 40 (i140, b140, e140, a140, s140, o140, g140, j140)).toInt32)) o141 g141 j141 l0 l1 l2 l3 l4 l5 ++ wPa Z p kk b (nI i141) (sf i141) (nw tk i141 b141) b141 e141 a141 y0 y1 y2 y3 y4 y5) ++ wTk Z kk t (nI (Lt + 1)) kf sf vf) ++ wTp Z t (nI tm) tb) rfl ?_
          exact J_vret C E iX3_houseLine_164 ⟨i141, b141, e141, a141, s141, o141, g141, j141, _, _, _, by rw [houC, hR121, houH]; rw [houA, if_pos (show hnF nm (valT tk vf 39 (i121, b121, e121, a121, s121, o121, g121, j121)) m = -1 from h30), if_neg hs51, hR122, hR136, hR137, houF, houB, if_pos (show 99 < valT tk vf 40 (i137, b137, e137, a137, s137, o137, g137, j137) from h89), hR138, hR139, hR140, houG, houD, if_pos (show valT tk vf 40 (i140, b140, e140, a140, s140, o140, g140, j140) ≤ 30 from h140), hR141], by omega, by omega, rfl, rfl⟩
        · refine J_aload_n C iX3_houseLine_143 rfl rfl ?_
          refine J_iconst 5 C iX3_houseLine_144 rfl ?_
          refine J_iload C iX3_houseLine_145 rfl ?_
          refine J_cV (As := [.int 5, .int (sf i140)]) (st := []) (rc2 := (rmK 2).cells) (rs2 := (rmK 2).slots) C iX3_houseLine_147 lm_X3_96 yc_X3_tell yv_X3_tell (c_X3_tell hLt hkf htk hend (by omega) (by omega) hm) (q0 := 24) rfl rfl rfl rfl (rmK_le (by omega) (by decide)) (Nat.le_of_ble_eq_true rfl) rfl rfl ?_
          rintro _ _ ⟨i142, b142, e142, a142, s142, o142, g142, j142, hR142, hli142, hls142, rfl, rfl⟩
          refine J_st ([]) rfl ?_
          refine J_aload_n C iX3_houseLine_150 rfl rfl ?_
          refine J_get (.ref (b 0)) 24 C iX3_houseLine_151 gf_X3_31 rfl rfl ?_
          refine J_lload_n C iX3_houseLine_154 rfl rfl ?_
          refine J_lload C iX3_houseLine_155 rfl ?_
          refine J_l2i C iX3_houseLine_157 ?_
          refine J_lload C iX3_houseLine_158 rfl ?_
          refine J_l2i C iX3_houseLine_160 ?_
          refine J_cVb (As := [.long (valT tk vf 39 (i121, b121, e121, a121, s121, o121, g121, j121)), .int ((valT tk vf 40 (i137, b137, e137, a137, s137, o137, g137, j137)).toInt32), .int ((valT tk vf 40 (i140, b140, e140, a140, s140, o140, g140, j140)).toInt32)]) (st := []) (rc2 := (rmK 2).cells) (rs2 := (rmK 2).slots) C iX3_houseLine_161 lm_X3_120 yc_X0_addHouse yv_X0_addHouse (c_X0_addHouse (m := m) hm) (q0 := 0) rfl rfl rfl [] ((wPa Z p kk b (nI i142) (sf i142) (nw tk i142 b142) b142 e142 a142 y0 y1 y2 y3 y4 y5 ++ wTk Z kk t (nI (Lt + 1)) kf sf vf) ++ wTp Z t (nI tm) tb) rfl rfl (rmK_le (by omega) (by decide)) (Nat.le_of_ble_eq_true rfl) rfl rfl ?_
          rintro _ _ ⟨rfl, rfl⟩
          refine J_st ([]) rfl ?_
          refine J_ws (((wBk Z b L (nI (inc m 12)) lc (nI s142) (updCL nm m 12 (valT tk vf 39 (i121, b121, e121, a121, s121, o121, g121, j121))) (updC bP m 12 ((valT tk vf 40 (i137, b137, e137, a137, s137, o137, g137, j137)).toInt32)) (updC bH m 12 ((valT tk vf 40 (i140, b140, e140, a140, s140, o140, g140, j140)).toInt32)) o142 g142 j142 l0 l1 l2 l3 l4 l5 ++ wPa Z p kk b (nI i142) (sf i142) (nw tk i142 b142) b142 e142 a142 y0 y1 y2 y3 y4 y5) ++ wTk Z kk t (nI (Lt + 1)) kf sf vf) ++ wTp Z t (nI tm) tb) rfl ?_
          exact J_vret C E iX3_houseLine_164 ⟨i142, b142, e142, a142, s142, o142, g142, j142, _, _, _, by rw [houC, hR121, houH]; rw [houA, if_pos (show hnF nm (valT tk vf 39 (i121, b121, e121, a121, s121, o121, g121, j121)) m = -1 from h30), if_neg hs51, hR122, hR136, hR137, houF, houB, if_pos (show 99 < valT tk vf 40 (i137, b137, e137, a137, s137, o137, g137, j137) from h89), hR138, hR139, hR140, houG, houD, if_neg (show ¬ valT tk vf 40 (i140, b140, e140, a140, s140, o140, g140, j140) ≤ 30 from h140), hR141, hR142], by omega, by omega, rfl, rfl⟩
      · refine J_aload_n C iX3_houseLine_92 rfl rfl ?_
        refine J_get (.ref (b 0)) 24 C iX3_houseLine_93 gf_X3_31 rfl rfl ?_
        refine J_lload C iX3_houseLine_96 rfl ?_
        refine J_cVb (As := [.long (valT tk vf 40 (i137, b137, e137, a137, s137, o137, g137, j137))]) (st := []) (rc2 := (rmK 2).cells) (rs2 := (rmK 2).slots) C iX3_houseLine_98 lm_X3_111 yc_X0_isTaken yv_X0_isTaken (c_X0_isTaken (m := m) hm) (q0 := 0) rfl rfl rfl [] ((wPa Z p kk b (nI i138) (sf i138) (nw tk i138 b138) b138 e138 a138 y0 y1 y2 y3 y4 y5 ++ wTk Z kk t (nI (Lt + 1)) kf sf vf) ++ wTp Z t (nI tm) tb) rfl rfl (rmK_le (by omega) (by decide)) (Nat.le_of_ble_eq_true rfl) rfl rfl ?_
        rintro _ _ ⟨rfl, rfl⟩
        refine J_st (.int (b2i (tkF bP (valT tk vf 40 (i137, b137, e137, a137, s137, o137, g137, j137)) m)) :: []) rfl ?_
        refine J_ws (((wBk Z b L (nI m) lc (nI s138) nm bP bH o138 g138 j138 l0 l1 l2 l3 l4 l5 ++ wPa Z p kk b (nI i138) (sf i138) (nw tk i138 b138) b138 e138 a138 y0 y1 y2 y3 y4 y5) ++ wTk Z kk t (nI (Lt + 1)) kf sf vf) ++ wTp Z t (nI tm) tb) rfl ?_
        refine J_ifeqb 111 C iX3_houseLine_101 rfl (fun h101 => ?_) (fun h101 => ?_)
        · refine J_aload_n C iX3_houseLine_111 rfl rfl ?_
          refine J_getsK C iX3_houseLine_112 kf_X3_115 ?_
          refine J_cV (As := [.ref (zad Z 2)]) (st := []) (rc2 := (rmK 2).cells) (rs2 := (rmK 2).slots) C iX3_houseLine_115 lm_X3_85 yc_X3_take yv_X3_take (c_X3_take (k := 2) hLt hkf htk hend (by omega) (by omega) hm (by decide) (by decide) (by decide)) (q0 := 24) rfl rfl rfl rfl (rmK_le (by omega) (by decide)) (Nat.le_of_ble_eq_true rfl) rfl rfl ?_
          rintro _ _ ⟨i143, b143, e143, a143, s143, o143, g143, j143, hR143, hli143, hls143, rfl, rfl⟩
          refine J_st (.long (valT tk vf 2 (i138, b138, e138, a138, s138, o138, g138, j138)) :: []) rfl ?_
          refine J_pop2 C iX3_houseLine_118 rfl ?_
          refine J_aload_n C iX3_houseLine_119 rfl rfl ?_
          refine J_get (.int (sf i143)) 24 C iX3_houseLine_120 gf_X3_57 rfl rfl ?_
          refine J_istore [(7, .int (sf i143)), (5, .long (valT tk vf 40 (i137, b137, e137, a137, s137, o137, g137, j137))), (4, .int (sf i137)), (2, .long (valT tk vf 39 (i121, b121, e121, a121, s121, o121, g121, j121))), (1, .int (sf i121)), (0, .ref (p 0))] C iX3_houseLine_123 (by decide) rfl ?_
          refine J_aload_n C iX3_houseLine_125 rfl rfl ?_
          refine J_getsK C iX3_houseLine_126 kf_X3_106 ?_
          refine J_cV (As := [.ref (zad Z 40)]) (st := []) (rc2 := (rmK 2).cells) (rs2 := (rmK 2).slots) C iX3_houseLine_129 lm_X3_85 yc_X3_take yv_X3_take (c_X3_take (k := 40) hLt hkf htk hend (by omega) (by omega) hm (by decide) (by decide) (by decide)) (q0 := 24) rfl rfl rfl rfl (rmK_le (by omega) (by decide)) (Nat.le_of_ble_eq_true rfl) rfl rfl ?_
          rintro _ _ ⟨i144, b144, e144, a144, s144, o144, g144, j144, hR144, hli144, hls144, rfl, rfl⟩
          refine J_st (.long (valT tk vf 40 (i143, b143, e143, a143, s143, o143, g143, j143)) :: []) rfl ?_
          refine J_lstore [(8, .long (valT tk vf 40 (i143, b143, e143, a143, s143, o143, g143, j143))), (7, .int (sf i143)), (5, .long (valT tk vf 40 (i137, b137, e137, a137, s137, o137, g137, j137))), (4, .int (sf i137)), (2, .long (valT tk vf 39 (i121, b121, e121, a121, s121, o121, g121, j121))), (1, .int (sf i121)), (0, .ref (p 0))] C iX3_houseLine_132 (by decide) rfl ?_
          refine J_lload C iX3_houseLine_134 rfl ?_
          refine J_ldc2 30 C iX3_houseLine_136 (tsg_in (i := 1034) (by decide +kernel) rfl) ?_
          refine J_lcmp C iX3_houseLine_139 ?_
          refine J_ifleL 150 C iX3_houseLine_140 rfl (fun h140 => ?_) (fun h140 => ?_)
          · refine J_aload_n C iX3_houseLine_150 rfl rfl ?_
            refine J_get (.ref (b 0)) 24 C iX3_houseLine_151 gf_X3_31 rfl rfl ?_
            refine J_lload_n C iX3_houseLine_154 rfl rfl ?_
            refine J_lload C iX3_houseLine_155 rfl ?_
            refine J_l2i C iX3_houseLine_157 ?_
            refine J_lload C iX3_houseLine_158 rfl ?_
            refine J_l2i C iX3_houseLine_160 ?_
            refine J_cVb (As := [.long (valT tk vf 39 (i121, b121, e121, a121, s121, o121, g121, j121)), .int ((valT tk vf 40 (i137, b137, e137, a137, s137, o137, g137, j137)).toInt32), .int ((valT tk vf 40 (i143, b143, e143, a143, s143, o143, g143, j143)).toInt32)]) (st := []) (rc2 := (rmK 2).cells) (rs2 := (rmK 2).slots) C iX3_houseLine_161 lm_X3_120 yc_X0_addHouse yv_X0_addHouse (c_X0_addHouse (m := m) hm) (q0 := 0) rfl rfl rfl [] ((wPa Z p kk b (nI i144) (sf i144) (nw tk i144 b144) b144 e144 a144 y0 y1 y2 y3 y4 y5 ++ wTk Z kk t (nI (Lt + 1)) kf sf vf) ++ wTp Z t (nI tm) tb) rfl rfl (rmK_le (by omega) (by decide)) (Nat.le_of_ble_eq_true rfl) rfl rfl ?_
            rintro _ _ ⟨rfl, rfl⟩
            refine J_st ([]) rfl ?_
            refine J_ws (((wBk Z b L (nI (inc m 12)) lc (nI s144) (updCL nm m 12 (valT tk vf 39 (i121, b121, e121, a121, s121, o121, g121, j121))) (updC bP m 12 ((valT tk vf 40 (i137, b137, e137, a137, s137, o137, g137, j137)).toInt32)) (updC bH m 12 ((valT tk vf 40 (i143, b143, e143, a143, s143, o143, g143, j143)).toInt32)) o144 g144 j144 l0 l1 l2 l3 l4 l5 ++ wPa Z p kk b (nI i144) (sf i144) (nw tk i144 b144) b144 e144 a144 y0 y1 y2 y3 y4 y5) ++ wTk Z kk t (nI (Lt + 1)) kf sf vf) ++ wTp Z t (nI tm) tb) rfl ?_
            exact J_vret C E iX3_houseLine_164 ⟨i144, b144, e144, a144, s144, o144, g144, j144, _, _, _, by rw [houC, hR121, houH]; rw [houA, if_pos (show hnF nm (valT tk vf 39 (i121, b121, e121, a121, s121, o121, g121, j121)) m = -1 from h30), if_neg hs51, hR122, hR136, hR137, houF, houB, if_neg (show ¬ 99 < valT tk vf 40 (i137, b137, e137, a137, s137, o137, g137, j137) from h89), if_neg (show ¬ tkF bP (valT tk vf 40 (i137, b137, e137, a137, s137, o137, g137, j137)) m = true from (by rw [h101]; decide)), hR138, hR143, houG, houD, if_pos (show valT tk vf 40 (i143, b143, e143, a143, s143, o143, g143, j143) ≤ 30 from h140), hR144], by omega, by omega, rfl, rfl⟩
          · refine J_aload_n C iX3_houseLine_143 rfl rfl ?_
            refine J_iconst 5 C iX3_houseLine_144 rfl ?_
            refine J_iload C iX3_houseLine_145 rfl ?_
            refine J_cV (As := [.int 5, .int (sf i143)]) (st := []) (rc2 := (rmK 2).cells) (rs2 := (rmK 2).slots) C iX3_houseLine_147 lm_X3_96 yc_X3_tell yv_X3_tell (c_X3_tell hLt hkf htk hend (by omega) (by omega) hm) (q0 := 24) rfl rfl rfl rfl (rmK_le (by omega) (by decide)) (Nat.le_of_ble_eq_true rfl) rfl rfl ?_
            rintro _ _ ⟨i145, b145, e145, a145, s145, o145, g145, j145, hR145, hli145, hls145, rfl, rfl⟩
            refine J_st ([]) rfl ?_
            refine J_aload_n C iX3_houseLine_150 rfl rfl ?_
            refine J_get (.ref (b 0)) 24 C iX3_houseLine_151 gf_X3_31 rfl rfl ?_
            refine J_lload_n C iX3_houseLine_154 rfl rfl ?_
            refine J_lload C iX3_houseLine_155 rfl ?_
            refine J_l2i C iX3_houseLine_157 ?_
            refine J_lload C iX3_houseLine_158 rfl ?_
            refine J_l2i C iX3_houseLine_160 ?_
            refine J_cVb (As := [.long (valT tk vf 39 (i121, b121, e121, a121, s121, o121, g121, j121)), .int ((valT tk vf 40 (i137, b137, e137, a137, s137, o137, g137, j137)).toInt32), .int ((valT tk vf 40 (i143, b143, e143, a143, s143, o143, g143, j143)).toInt32)]) (st := []) (rc2 := (rmK 2).cells) (rs2 := (rmK 2).slots) C iX3_houseLine_161 lm_X3_120 yc_X0_addHouse yv_X0_addHouse (c_X0_addHouse (m := m) hm) (q0 := 0) rfl rfl rfl [] ((wPa Z p kk b (nI i145) (sf i145) (nw tk i145 b145) b145 e145 a145 y0 y1 y2 y3 y4 y5 ++ wTk Z kk t (nI (Lt + 1)) kf sf vf) ++ wTp Z t (nI tm) tb) rfl rfl (rmK_le (by omega) (by decide)) (Nat.le_of_ble_eq_true rfl) rfl rfl ?_
            rintro _ _ ⟨rfl, rfl⟩
            refine J_st ([]) rfl ?_
            refine J_ws (((wBk Z b L (nI (inc m 12)) lc (nI s145) (updCL nm m 12 (valT tk vf 39 (i121, b121, e121, a121, s121, o121, g121, j121))) (updC bP m 12 ((valT tk vf 40 (i137, b137, e137, a137, s137, o137, g137, j137)).toInt32)) (updC bH m 12 ((valT tk vf 40 (i143, b143, e143, a143, s143, o143, g143, j143)).toInt32)) o145 g145 j145 l0 l1 l2 l3 l4 l5 ++ wPa Z p kk b (nI i145) (sf i145) (nw tk i145 b145) b145 e145 a145 y0 y1 y2 y3 y4 y5) ++ wTk Z kk t (nI (Lt + 1)) kf sf vf) ++ wTp Z t (nI tm) tb) rfl ?_
            exact J_vret C E iX3_houseLine_164 ⟨i145, b145, e145, a145, s145, o145, g145, j145, _, _, _, by rw [houC, hR121, houH]; rw [houA, if_pos (show hnF nm (valT tk vf 39 (i121, b121, e121, a121, s121, o121, g121, j121)) m = -1 from h30), if_neg hs51, hR122, hR136, hR137, houF, houB, if_neg (show ¬ 99 < valT tk vf 40 (i137, b137, e137, a137, s137, o137, g137, j137) from h89), if_neg (show ¬ tkF bP (valT tk vf 40 (i137, b137, e137, a137, s137, o137, g137, j137)) m = true from (by rw [h101]; decide)), hR138, hR143, houG, houD, if_neg (show ¬ valT tk vf 40 (i143, b143, e143, a143, s143, o143, g143, j143) ≤ 30 from h140), hR144, hR145], by omega, by omega, rfl, rfl⟩
        · refine J_aload_n C iX3_houseLine_104 rfl rfl ?_
          refine J_iconst 5 C iX3_houseLine_105 rfl ?_
          refine J_iload C iX3_houseLine_106 rfl ?_
          refine J_cV (As := [.int 5, .int (sf i137)]) (st := []) (rc2 := (rmK 2).cells) (rs2 := (rmK 2).slots) C iX3_houseLine_108 lm_X3_96 yc_X3_tell yv_X3_tell (c_X3_tell hLt hkf htk hend (by omega) (by omega) hm) (q0 := 24) rfl rfl rfl rfl (rmK_le (by omega) (by decide)) (Nat.le_of_ble_eq_true rfl) rfl rfl ?_
          rintro _ _ ⟨i146, b146, e146, a146, s146, o146, g146, j146, hR146, hli146, hls146, rfl, rfl⟩
          refine J_st ([]) rfl ?_
          refine J_aload_n C iX3_houseLine_111 rfl rfl ?_
          refine J_getsK C iX3_houseLine_112 kf_X3_115 ?_
          refine J_cV (As := [.ref (zad Z 2)]) (st := []) (rc2 := (rmK 2).cells) (rs2 := (rmK 2).slots) C iX3_houseLine_115 lm_X3_85 yc_X3_take yv_X3_take (c_X3_take (k := 2) hLt hkf htk hend (by omega) (by omega) hm (by decide) (by decide) (by decide)) (q0 := 24) rfl rfl rfl rfl (rmK_le (by omega) (by decide)) (Nat.le_of_ble_eq_true rfl) rfl rfl ?_
          rintro _ _ ⟨i147, b147, e147, a147, s147, o147, g147, j147, hR147, hli147, hls147, rfl, rfl⟩
          refine J_st (.long (valT tk vf 2 (i146, b146, e146, a146, s146, o146, g146, j146)) :: []) rfl ?_
          refine J_pop2 C iX3_houseLine_118 rfl ?_
          refine J_aload_n C iX3_houseLine_119 rfl rfl ?_
          refine J_get (.int (sf i147)) 24 C iX3_houseLine_120 gf_X3_57 rfl rfl ?_
          refine J_istore [(7, .int (sf i147)), (5, .long (valT tk vf 40 (i137, b137, e137, a137, s137, o137, g137, j137))), (4, .int (sf i137)), (2, .long (valT tk vf 39 (i121, b121, e121, a121, s121, o121, g121, j121))), (1, .int (sf i121)), (0, .ref (p 0))] C iX3_houseLine_123 (by decide) rfl ?_
          refine J_aload_n C iX3_houseLine_125 rfl rfl ?_
          refine J_getsK C iX3_houseLine_126 kf_X3_106 ?_
          refine J_cV (As := [.ref (zad Z 40)]) (st := []) (rc2 := (rmK 2).cells) (rs2 := (rmK 2).slots) C iX3_houseLine_129 lm_X3_85 yc_X3_take yv_X3_take (c_X3_take (k := 40) hLt hkf htk hend (by omega) (by omega) hm (by decide) (by decide) (by decide)) (q0 := 24) rfl rfl rfl rfl (rmK_le (by omega) (by decide)) (Nat.le_of_ble_eq_true rfl) rfl rfl ?_
          rintro _ _ ⟨i148, b148, e148, a148, s148, o148, g148, j148, hR148, hli148, hls148, rfl, rfl⟩
          refine J_st (.long (valT tk vf 40 (i147, b147, e147, a147, s147, o147, g147, j147)) :: []) rfl ?_
          refine J_lstore [(8, .long (valT tk vf 40 (i147, b147, e147, a147, s147, o147, g147, j147))), (7, .int (sf i147)), (5, .long (valT tk vf 40 (i137, b137, e137, a137, s137, o137, g137, j137))), (4, .int (sf i137)), (2, .long (valT tk vf 39 (i121, b121, e121, a121, s121, o121, g121, j121))), (1, .int (sf i121)), (0, .ref (p 0))] C iX3_houseLine_132 (by decide) rfl ?_
          refine J_lload C iX3_houseLine_134 rfl ?_
          refine J_ldc2 30 C iX3_houseLine_136 (tsg_in (i := 1034) (by decide +kernel) rfl) ?_
          refine J_lcmp C iX3_houseLine_139 ?_
          refine J_ifleL 150 C iX3_houseLine_140 rfl (fun h140 => ?_) (fun h140 => ?_)
          · refine J_aload_n C iX3_houseLine_150 rfl rfl ?_
            refine J_get (.ref (b 0)) 24 C iX3_houseLine_151 gf_X3_31 rfl rfl ?_
            refine J_lload_n C iX3_houseLine_154 rfl rfl ?_
            refine J_lload C iX3_houseLine_155 rfl ?_
            refine J_l2i C iX3_houseLine_157 ?_
            refine J_lload C iX3_houseLine_158 rfl ?_
            refine J_l2i C iX3_houseLine_160 ?_
            refine J_cVb (As := [.long (valT tk vf 39 (i121, b121, e121, a121, s121, o121, g121, j121)), .int ((valT tk vf 40 (i137, b137, e137, a137, s137, o137, g137, j137)).toInt32), .int ((valT tk vf 40 (i147, b147, e147, a147, s147, o147, g147, j147)).toInt32)]) (st := []) (rc2 := (rmK 2).cells) (rs2 := (rmK 2).slots) C iX3_houseLine_161 lm_X3_120 yc_X0_addHouse yv_X0_addHouse (c_X0_addHouse (m := m) hm) (q0 := 0) rfl rfl rfl [] ((wPa Z p kk b (nI i148) (sf i148) (nw tk i148 b148) b148 e148 a148 y0 y1 y2 y3 y4 y5 ++ wTk Z kk t (nI (Lt + 1)) kf sf vf) ++ wTp Z t (nI tm) tb) rfl rfl (rmK_le (by omega) (by decide)) (Nat.le_of_ble_eq_true rfl) rfl rfl ?_
            rintro _ _ ⟨rfl, rfl⟩
            refine J_st ([]) rfl ?_
            refine J_ws (((wBk Z b L (nI (inc m 12)) lc (nI s148) (updCL nm m 12 (valT tk vf 39 (i121, b121, e121, a121, s121, o121, g121, j121))) (updC bP m 12 ((valT tk vf 40 (i137, b137, e137, a137, s137, o137, g137, j137)).toInt32)) (updC bH m 12 ((valT tk vf 40 (i147, b147, e147, a147, s147, o147, g147, j147)).toInt32)) o148 g148 j148 l0 l1 l2 l3 l4 l5 ++ wPa Z p kk b (nI i148) (sf i148) (nw tk i148 b148) b148 e148 a148 y0 y1 y2 y3 y4 y5) ++ wTk Z kk t (nI (Lt + 1)) kf sf vf) ++ wTp Z t (nI tm) tb) rfl ?_
            exact J_vret C E iX3_houseLine_164 ⟨i148, b148, e148, a148, s148, o148, g148, j148, _, _, _, by rw [houC, hR121, houH]; rw [houA, if_pos (show hnF nm (valT tk vf 39 (i121, b121, e121, a121, s121, o121, g121, j121)) m = -1 from h30), if_neg hs51, hR122, hR136, hR137, houF, houB, if_neg (show ¬ 99 < valT tk vf 40 (i137, b137, e137, a137, s137, o137, g137, j137) from h89), if_pos (show tkF bP (valT tk vf 40 (i137, b137, e137, a137, s137, o137, g137, j137)) m = true from h101), hR138, hR146, hR147, houG, houD, if_pos (show valT tk vf 40 (i147, b147, e147, a147, s147, o147, g147, j147) ≤ 30 from h140), hR148], by omega, by omega, rfl, rfl⟩
          · refine J_aload_n C iX3_houseLine_143 rfl rfl ?_
            refine J_iconst 5 C iX3_houseLine_144 rfl ?_
            refine J_iload C iX3_houseLine_145 rfl ?_
            refine J_cV (As := [.int 5, .int (sf i147)]) (st := []) (rc2 := (rmK 2).cells) (rs2 := (rmK 2).slots) C iX3_houseLine_147 lm_X3_96 yc_X3_tell yv_X3_tell (c_X3_tell hLt hkf htk hend (by omega) (by omega) hm) (q0 := 24) rfl rfl rfl rfl (rmK_le (by omega) (by decide)) (Nat.le_of_ble_eq_true rfl) rfl rfl ?_
            rintro _ _ ⟨i149, b149, e149, a149, s149, o149, g149, j149, hR149, hli149, hls149, rfl, rfl⟩
            refine J_st ([]) rfl ?_
            refine J_aload_n C iX3_houseLine_150 rfl rfl ?_
            refine J_get (.ref (b 0)) 24 C iX3_houseLine_151 gf_X3_31 rfl rfl ?_
            refine J_lload_n C iX3_houseLine_154 rfl rfl ?_
            refine J_lload C iX3_houseLine_155 rfl ?_
            refine J_l2i C iX3_houseLine_157 ?_
            refine J_lload C iX3_houseLine_158 rfl ?_
            refine J_l2i C iX3_houseLine_160 ?_
            refine J_cVb (As := [.long (valT tk vf 39 (i121, b121, e121, a121, s121, o121, g121, j121)), .int ((valT tk vf 40 (i137, b137, e137, a137, s137, o137, g137, j137)).toInt32), .int ((valT tk vf 40 (i147, b147, e147, a147, s147, o147, g147, j147)).toInt32)]) (st := []) (rc2 := (rmK 2).cells) (rs2 := (rmK 2).slots) C iX3_houseLine_161 lm_X3_120 yc_X0_addHouse yv_X0_addHouse (c_X0_addHouse (m := m) hm) (q0 := 0) rfl rfl rfl [] ((wPa Z p kk b (nI i149) (sf i149) (nw tk i149 b149) b149 e149 a149 y0 y1 y2 y3 y4 y5 ++ wTk Z kk t (nI (Lt + 1)) kf sf vf) ++ wTp Z t (nI tm) tb) rfl rfl (rmK_le (by omega) (by decide)) (Nat.le_of_ble_eq_true rfl) rfl rfl ?_
            rintro _ _ ⟨rfl, rfl⟩
            refine J_st ([]) rfl ?_
            refine J_ws (((wBk Z b L (nI (inc m 12)) lc (nI s149) (updCL nm m 12 (valT tk vf 39 (i121, b121, e121, a121, s121, o121, g121, j121))) (updC bP m 12 ((valT tk vf 40 (i137, b137, e137, a137, s137, o137, g137, j137)).toInt32)) (updC bH m 12 ((valT tk vf 40 (i147, b147, e147, a147, s147, o147, g147, j147)).toInt32)) o149 g149 j149 l0 l1 l2 l3 l4 l5 ++ wPa Z p kk b (nI i149) (sf i149) (nw tk i149 b149) b149 e149 a149 y0 y1 y2 y3 y4 y5) ++ wTk Z kk t (nI (Lt + 1)) kf sf vf) ++ wTp Z t (nI tm) tb) rfl ?_
            exact J_vret C E iX3_houseLine_164 ⟨i149, b149, e149, a149, s149, o149, g149, j149, _, _, _, by rw [houC, hR121, houH]; rw [houA, if_pos (show hnF nm (valT tk vf 39 (i121, b121, e121, a121, s121, o121, g121, j121)) m = -1 from h30), if_neg hs51, hR122, hR136, hR137, houF, houB, if_neg (show ¬ 99 < valT tk vf 40 (i137, b137, e137, a137, s137, o137, g137, j137) from h89), if_pos (show tkF bP (valT tk vf 40 (i137, b137, e137, a137, s137, o137, g137, j137)) m = true from h101), hR138, hR146, hR147, houG, houD, if_neg (show ¬ valT tk vf 40 (i147, b147, e147, a147, s147, o147, g147, j147) ≤ 30 from h140), hR148, hR149], by omega, by omega, rfl, rfl⟩
  · refine J_aload_n C iX3_houseLine_33 rfl rfl ?_
    refine J_iconst 2 C iX3_houseLine_34 rfl ?_
    refine J_iload_n C iX3_houseLine_35 rfl rfl ?_
    refine J_cV (As := [.int 2, .int (sf i121)]) (st := []) (rc2 := (rmK 2).cells) (rs2 := (rmK 2).slots) C iX3_houseLine_36 lm_X3_96 yc_X3_tell yv_X3_tell (c_X3_tell hLt hkf htk hend (by omega) (by omega) hm) (q0 := 24) rfl rfl rfl rfl (rmK_le (by omega) (by decide)) (Nat.le_of_ble_eq_true rfl) rfl rfl ?_
    rintro _ _ ⟨i150, b150, e150, a150, s150, o150, g150, j150, hR150, hli150, hls150, rfl, rfl⟩
    refine J_st ([]) rfl ?_
    refine J_goto 60 C iX3_houseLine_39 rfl ?_
    refine J_aload_n C iX3_houseLine_60 rfl rfl ?_
    refine J_getsK C iX3_houseLine_61 kf_X3_103 ?_
    refine J_cV (As := [.ref (zad Z 1)]) (st := []) (rc2 := (rmK 2).cells) (rs2 := (rmK 2).slots) C iX3_houseLine_64 lm_X3_85 yc_X3_take yv_X3_take (c_X3_take (k := 1) hLt hkf htk hend (by omega) (by omega) hm (by decide) (by decide) (by decide)) (q0 := 24) rfl rfl rfl rfl (rmK_le (by omega) (by decide)) (Nat.le_of_ble_eq_true rfl) rfl rfl ?_
    rintro _ _ ⟨i151, b151, e151, a151, s151, o151, g151, j151, hR151, hli151, hls151, rfl, rfl⟩
    refine J_st (.long (valT tk vf 1 (i150, b150, e150, a150, s150, o150, g150, j150)) :: []) rfl ?_
    refine J_pop2 C iX3_houseLine_67 rfl ?_
    refine J_aload_n C iX3_houseLine_68 rfl rfl ?_
    refine J_get (.int (sf i151)) 24 C iX3_houseLine_69 gf_X3_57 rfl rfl ?_
    refine J_istore [(4, .int (sf i151)), (2, .long (valT tk vf 39 (i121, b121, e121, a121, s121, o121, g121, j121))), (1, .int (sf i121)), (0, .ref (p 0))] C iX3_houseLine_72 (by decide) rfl ?_
    refine J_aload_n C iX3_houseLine_74 rfl rfl ?_
    refine J_getsK C iX3_houseLine_75 kf_X3_106 ?_
    refine J_cV (As := [.ref (zad Z 40)]) (st := []) (rc2 := (rmK 2).cells) (rs2 := (rmK 2).slots) C iX3_houseLine_78 lm_X3_85 yc_X3_take yv_X3_take (c_X3_take (k := 40) hLt hkf htk hend (by omega) (by omega) hm (by decide) (by decide) (by decide)) (q0 := 24) rfl rfl rfl rfl (rmK_le (by omega) (by decide)) (Nat.le_of_ble_eq_true rfl) rfl rfl ?_
    rintro _ _ ⟨i152, b152, e152, a152, s152, o152, g152, j152, hR152, hli152, hls152, rfl, rfl⟩
    refine J_st (.long (valT tk vf 40 (i151, b151, e151, a151, s151, o151, g151, j151)) :: []) rfl ?_
    refine J_lstore [(5, .long (valT tk vf 40 (i151, b151, e151, a151, s151, o151, g151, j151))), (4, .int (sf i151)), (2, .long (valT tk vf 39 (i121, b121, e121, a121, s121, o121, g121, j121))), (1, .int (sf i121)), (0, .ref (p 0))] C iX3_houseLine_81 (by decide) rfl ?_
    refine J_lload C iX3_houseLine_83 rfl ?_
    refine J_ldc2 99 C iX3_houseLine_85 (tsg_in (i := 1027) (by decide +kernel) rfl) ?_
    refine J_lcmp C iX3_houseLine_88 ?_
    refine J_ifgtL 104 C iX3_houseLine_89 rfl (fun h89 => ?_) (fun h89 => ?_)
    · refine J_aload_n C iX3_houseLine_104 rfl rfl ?_
      refine J_iconst 5 C iX3_houseLine_105 rfl ?_
      refine J_iload C iX3_houseLine_106 rfl ?_
      refine J_cV (As := [.int 5, .int (sf i151)]) (st := []) (rc2 := (rmK 2).cells) (rs2 := (rmK 2).slots) C iX3_houseLine_108 lm_X3_96 yc_X3_tell yv_X3_tell (c_X3_tell hLt hkf htk hend (by omega) (by omega) hm) (q0 := 24) rfl rfl rfl rfl (rmK_le (by omega) (by decide)) (Nat.le_of_ble_eq_true rfl) rfl rfl ?_
      rintro _ _ ⟨i153, b153, e153, a153, s153, o153, g153, j153, hR153, hli153, hls153, rfl, rfl⟩
      refine J_st ([]) rfl ?_
      refine J_aload_n C iX3_houseLine_111 rfl rfl ?_
      refine J_getsK C iX3_houseLine_112 kf_X3_115 ?_
      refine J_cV (As := [.ref (zad Z 2)]) (st := []) (rc2 := (rmK 2).cells) (rs2 := (rmK 2).slots) C iX3_houseLine_115 lm_X3_85 yc_X3_take yv_X3_take (c_X3_take (k := 2) hLt hkf htk hend (by omega) (by omega) hm (by decide) (by decide) (by decide)) (q0 := 24) rfl rfl rfl rfl (rmK_le (by omega) (by decide)) (Nat.le_of_ble_eq_true rfl) rfl rfl ?_
      rintro _ _ ⟨i154, b154, e154, a154, s154, o154, g154, j154, hR154, hli154, hls154, rfl, rfl⟩
      refine J_st (.long (valT tk vf 2 (i153, b153, e153, a153, s153, o153, g153, j153)) :: []) rfl ?_
      refine J_pop2 C iX3_houseLine_118 rfl ?_
      refine J_aload_n C iX3_houseLine_119 rfl rfl ?_
      refine J_get (.int (sf i154)) 24 C iX3_houseLine_120 gf_X3_57 rfl rfl ?_
      refine J_istore [(7, .int (sf i154)), (5, .long (valT tk vf 40 (i151, b151, e151, a151, s151, o151, g151, j151))), (4, .int (sf i151)), (2, .long (valT tk vf 39 (i121, b121, e121, a121, s121, o121, g121, j121))), (1, .int (sf i121)), (0, .ref (p 0))] C iX3_houseLine_123 (by decide) rfl ?_
      refine J_aload_n C iX3_houseLine_125 rfl rfl ?_
      refine J_getsK C iX3_houseLine_126 kf_X3_106 ?_
      refine J_cV (As := [.ref (zad Z 40)]) (st := []) (rc2 := (rmK 2).cells) (rs2 := (rmK 2).slots) C iX3_houseLine_129 lm_X3_85 yc_X3_take yv_X3_take (c_X3_take (k := 40) hLt hkf htk hend (by omega) (by omega) hm (by decide) (by decide) (by decide)) (q0 := 24) rfl rfl rfl rfl (rmK_le (by omega) (by decide)) (Nat.le_of_ble_eq_true rfl) rfl rfl ?_
      rintro _ _ ⟨i155, b155, e155, a155, s155, o155, g155, j155, hR155, hli155, hls155, rfl, rfl⟩
      refine J_st (.long (valT tk vf 40 (i154, b154, e154, a154, s154, o154, g154, j154)) :: []) rfl ?_
      refine J_lstore [(8, .long (valT tk vf 40 (i154, b154, e154, a154, s154, o154, g154, j154))), (7, .int (sf i154)), (5, .long (valT tk vf 40 (i151, b151, e151, a151, s151, o151, g151, j151))), (4, .int (sf i151)), (2, .long (valT tk vf 39 (i121, b121, e121, a121, s121, o121, g121, j121))), (1, .int (sf i121)), (0, .ref (p 0))] C iX3_houseLine_132 (by decide) rfl ?_
      refine J_lload C iX3_houseLine_134 rfl ?_
      refine J_ldc2 30 C iX3_houseLine_136 (tsg_in (i := 1034) (by decide +kernel) rfl) ?_
      refine J_lcmp C iX3_houseLine_139 ?_
      refine J_ifleL 150 C iX3_houseLine_140 rfl (fun h140 => ?_) (fun h140 => ?_)
      · refine J_aload_n C iX3_houseLine_150 rfl rfl ?_
        refine J_get (.ref (b 0)) 24 C iX3_houseLine_151 gf_X3_31 rfl rfl ?_
        refine J_lload_n C iX3_houseLine_154 rfl rfl ?_
        refine J_lload C iX3_houseLine_155 rfl ?_
        refine J_l2i C iX3_houseLine_157 ?_
        refine J_lload C iX3_houseLine_158 rfl ?_
        refine J_l2i C iX3_houseLine_160 ?_
        refine J_cVb (As := [.long (valT tk vf 39 (i121, b121, e121, a121, s121, o121, g121, j121)), .int ((valT tk vf 40 (i151, b151, e151, a151, s151, o151, g151, j151)).toInt32), .int ((valT tk vf 40 (i154, b154, e154, a154, s154, o154, g154, j154)).toInt32)]) (st := []) (rc2 := (rmK 2).cells) (rs2 := (rmK 2).slots) C iX3_houseLine_161 lm_X3_120 yc_X0_addHouse yv_X0_addHouse (c_X0_addHouse (m := m) hm) (q0 := 0) rfl rfl rfl [] ((wPa Z p kk b (nI i155) (sf i155) (nw tk i155 b155) b155 e155 a155 y0 y1 y2 y3 y4 y5 ++ wTk Z kk t (nI (Lt + 1)) kf sf vf) ++ wTp Z t (nI tm) tb) rfl rfl (rmK_le (by omega) (by decide)) (Nat.le_of_ble_eq_true rfl) rfl rfl ?_
        rintro _ _ ⟨rfl, rfl⟩
        refine J_st ([]) rfl ?_
        refine J_ws (((wBk Z b L (nI (inc m 12)) lc (nI s155) (updCL nm m 12 (valT tk vf 39 (i121, b121, e121, a121, s121, o121, g121, j121))) (updC bP m 12 ((valT tk vf 40 (i151, b151, e151, a151, s151, o151, g151, j151)).toInt32)) (updC bH m 12 ((valT tk vf 40 (i154, b154, e154, a154, s154, o154, g154, j154)).toInt32)) o155 g155 j155 l0 l1 l2 l3 l4 l5 ++ wPa Z p kk b (nI i155) (sf i155) (nw tk i155 b155) b155 e155 a155 y0 y1 y2 y3 y4 y5) ++ wTk Z kk t (nI (Lt + 1)) kf sf vf) ++ wTp Z t (nI tm) tb) rfl ?_
        exact J_vret C E iX3_houseLine_164 ⟨i155, b155, e155, a155, s155, o155, g155, j155, _, _, _, by rw [houC, hR121, houH]; rw [houA, if_neg (show ¬ hnF nm (valT tk vf 39 (i121, b121, e121, a121, s121, o121, g121, j121)) m = -1 from h30), hR122, hR150, hR151, houF, houB, if_pos (show 99 < valT tk vf 40 (i151, b151, e151, a151, s151, o151, g151, j151) from h89), hR152, hR153, hR154, houG, houD, if_pos (show valT tk vf 40 (i154, b154, e154, a154, s154, o154, g154, j154) ≤ 30 from h140), hR155], by omega, by omega, rfl, rfl⟩
      · refine J_aload_n C iX3_houseLine_143 rfl rfl ?_
        refine J_iconst 5 C iX3_houseLine_144 rfl ?_
        refine J_iload C iX3_houseLine_145 rfl ?_
        refine J_cV (As := [.int 5, .int (sf i154)]) (st := []) (rc2 := (rmK 2).cells) (rs2 := (rmK 2).slots) C iX3_houseLine_147 lm_X3_96 yc_X3_tell yv_X3_tell (c_X3_tell hLt hkf htk hend (by omega) (by omega) hm) (q0 := 24) rfl rfl rfl rfl (rmK_le (by omega) (by decide)) (Nat.le_of_ble_eq_true rfl) rfl rfl ?_
        rintro _ _ ⟨i156, b156, e156, a156, s156, o156, g156, j156, hR156, hli156, hls156, rfl, rfl⟩
        refine J_st ([]) rfl ?_
        refine J_aload_n C iX3_houseLine_150 rfl rfl ?_
        refine J_get (.ref (b 0)) 24 C iX3_houseLine_151 gf_X3_31 rfl rfl ?_
        refine J_lload_n C iX3_houseLine_154 rfl rfl ?_
        refine J_lload C iX3_houseLine_155 rfl ?_
        refine J_l2i C iX3_houseLine_157 ?_
        refine J_lload C iX3_houseLine_158 rfl ?_
        refine J_l2i C iX3_houseLine_160 ?_
        refine J_cVb (As := [.long (valT tk vf 39 (i121, b121, e121, a121, s121, o121, g121, j121)), .int ((valT tk vf 40 (i151, b151, e151, a151, s151, o151, g151, j151)).toInt32), .int ((valT tk vf 40 (i154, b154, e154, a154, s154, o154, g154, j154)).toInt32)]) (st := []) (rc2 := (rmK 2).cells) (rs2 := (rmK 2).slots) C iX3_houseLine_161 lm_X3_120 yc_X0_addHouse yv_X0_addHouse (c_X0_addHouse (m := m) hm) (q0 := 0) rfl rfl rfl [] ((wPa Z p kk b (nI i156) (sf i156) (nw tk i156 b156) b156 e156 a156 y0 y1 y2 y3 y4 y5 ++ wTk Z kk t (nI (Lt + 1)) kf sf vf) ++ wTp Z t (nI tm) tb) rfl rfl (rmK_le (by omega) (by decide)) (Nat.le_of_ble_eq_true rfl) rfl rfl ?_
        rintro _ _ ⟨rfl, rfl⟩
        refine J_st ([]) rfl ?_
        refine J_ws (((wBk Z b L (nI (inc m 12)) lc (nI s156) (updCL nm m 12 (valT tk vf 39 (i121, b121, e121, a121, s121, o121, g121, j121))) (updC bP m 12 ((valT tk vf 40 (i151, b151, e151, a151, s151, o151, g151, j151)).toInt32)) (updC bH m 12 ((valT tk vf 40 (i154, b154, e154, a154, s154, o154, g154, j154)).toInt32)) o156 g156 j156 l0 l1 l2 l3 l4 l5 ++ wPa Z p kk b (nI i156) (sf i156) (nw tk i156 b156) b156 e156 a156 y0 y1 y2 y3 y4 y5) ++ wTk Z kk t (nI (Lt + 1)) kf sf vf) ++ wTp Z t (nI tm) tb) rfl ?_
        exact J_vret C E iX3_houseLine_164 ⟨i156, b156, e156, a156, s156, o156, g156, j156, _, _, _, by rw [houC, hR121, houH]; rw [houA, if_neg (show ¬ hnF nm (valT tk vf 39 (i121, b121, e121, a121, s121, o121, g121, j121)) m = -1 from h30), hR122, hR150, hR151, houF, houB, if_pos (show 99 < valT tk vf 40 (i151, b151, e151, a151, s151, o151, g151, j151) from h89), hR152, hR153, hR154, houG, houD, if_neg (show ¬ valT tk vf 40 (i154, b154, e154, a154, s154, o154, g154, j154) ≤ 30 from h140), hR155, hR156], by omega, by omega, rfl, rfl⟩
    · refine J_aload_n C iX3_houseLine_92 rfl rfl ?_
      refine J_get (.ref (b 0)) 24 C iX3_houseLine_93 gf_X3_31 rfl rfl ?_
      refine J_lload C iX3_houseLine_96 rfl ?_
      refine J_cVb (As := [.long (valT tk vf 40 (i151, b151, e151, a151, s151, o151, g151, j151))]) (st := []) (rc2 := (rmK 2).cells) (rs2 := (rmK 2).slots) C iX3_houseLine_98 lm_X3_111 yc_X0_isTaken yv_X0_isTaken (c_X0_isTaken (m := m) hm) (q0 := 0) rfl rfl rfl [] ((wPa Z p kk b (nI i152) (sf i152) (nw tk i152 b152) b152 e152 a152 y0 y1 y2 y3 y4 y5 ++ wTk Z kk t (nI (Lt + 1)) kf sf vf) ++ wTp Z t (nI tm) tb) rfl rfl (rmK_le (by omega) (by decide)) (Nat.le_of_ble_eq_true rfl) rfl rfl ?_
      rintro _ _ ⟨rfl, rfl⟩
      refine J_st (.int (b2i (tkF bP (valT tk vf 40 (i151, b151, e151, a151, s151, o151, g151, j151)) m)) :: []) rfl ?_
      refine J_ws (((wBk Z b L (nI m) lc (nI s152) nm bP bH o152 g152 j152 l0 l1 l2 l3 l4 l5 ++ wPa Z p kk b (nI i152) (sf i152) (nw tk i152 b152) b152 e152 a152 y0 y1 y2 y3 y4 y5) ++ wTk Z kk t (nI (Lt + 1)) kf sf vf) ++ wTp Z t (nI tm) tb) rfl ?_
      refine J_ifeqb 111 C iX3_houseLine_101 rfl (fun h101 => ?_) (fun h101 => ?_)
      · refine J_aload_n C iX3_houseLine_111 rfl rfl ?_
        refine J_getsK C iX3_houseLine_112 kf_X3_115 ?_
        refine J_cV (As := [.ref (zad Z 2)]) (st := []) (rc2 := (rmK 2).cells) (rs2 := (rmK 2).slots) C iX3_houseLine_115 lm_X3_85 yc_X3_take yv_X3_take (c_X3_take (k := 2) hLt hkf htk hend (by omega) (by omega) hm (by decide) (by decide) (by decide)) (q0 := 24) rfl rfl rfl rfl (rmK_le (by omega) (by decide)) (Nat.le_of_ble_eq_true rfl) rfl rfl ?_
        rintro _ _ ⟨i157, b157, e157, a157, s157, o157, g157, j157, hR157, hli157, hls157, rfl, rfl⟩
        refine J_st (.long (valT tk vf 2 (i152, b152, e152, a152, s152, o152, g152, j152)) :: []) rfl ?_
        refine J_pop2 C iX3_houseLine_118 rfl ?_
        refine J_aload_n C iX3_houseLine_119 rfl rfl ?_
        refine J_get (.int (sf i157)) 24 C iX3_houseLine_120 gf_X3_57 rfl rfl ?_
        refine J_istore [(7, .int (sf i157)), (5, .long (valT tk vf 40 (i151, b151, e151, a151, s151, o151, g151, j151))), (4, .int (sf i151)), (2, .long (valT tk vf 39 (i121, b121, e121, a121, s121, o121, g121, j121))), (1, .int (sf i121)), (0, .ref (p 0))] C iX3_houseLine_123 (by decide) rfl ?_
        refine J_aload_n C iX3_houseLine_125 rfl rfl ?_
        refine J_getsK C iX3_houseLine_126 kf_X3_106 ?_
        refine J_cV (As := [.ref (zad Z 40)]) (st := []) (rc2 := (rmK 2).cells) (rs2 := (rmK 2).slots) C iX3_houseLine_129 lm_X3_85 yc_X3_take yv_X3_take (c_X3_take (k := 40) hLt hkf htk hend (by omega) (by omega) hm (by decide) (by decide) (by decide)) (q0 := 24) rfl rfl rfl rfl (rmK_le (by omega) (by decide)) (Nat.le_of_ble_eq_true rfl) rfl rfl ?_
        rintro _ _ ⟨i158, b158, e158, a158, s158, o158, g158, j158, hR158, hli158, hls158, rfl, rfl⟩
        refine J_st (.long (valT tk vf 40 (i157, b157, e157, a157, s157, o157, g157, j157)) :: []) rfl ?_
        refine J_lstore [(8, .long (valT tk vf 40 (i157, b157, e157, a157, s157, o157, g157, j157))), (7, .int (sf i157)), (5, .long (valT tk vf 40 (i151, b151, e151, a151, s151, o151, g151, j151))), (4, .int (sf i151)), (2, .long (valT tk vf 39 (i121, b121, e121, a121, s121, o121, g121, j121))), (1, .int (sf i121)), (0, .ref (p 0))] C iX3_houseLine_132 (by decide) rfl ?_
        refine J_lload C iX3_houseLine_134 rfl ?_
        refine J_ldc2 30 C iX3_houseLine_136 (tsg_in (i := 1034) (by decide +kernel) rfl) ?_
        refine J_lcmp C iX3_houseLine_139 ?_
        refine J_ifleL 150 C iX3_houseLine_140 rfl (fun h140 => ?_) (fun h140 => ?_)
        · refine J_aload_n C iX3_houseLine_150 rfl rfl ?_
          refine J_get (.ref (b 0)) 24 C iX3_houseLine_151 gf_X3_31 rfl rfl ?_
          refine J_lload_n C iX3_houseLine_154 rfl rfl ?_
          refine J_lload C iX3_houseLine_155 rfl ?_
          refine J_l2i C iX3_houseLine_157 ?_
          refine J_lload C iX3_houseLine_158 rfl ?_
          refine J_l2i C iX3_houseLine_160 ?_
          refine J_cVb (As := [.long (valT tk vf 39 (i121, b121, e121, a121, s121, o121, g121, j121)), .int ((valT tk vf 40 (i151, b151, e151, a151, s151, o151, g151, j151)).toInt32), .int ((valT tk vf 40 (i157, b157, e157, a157, s157, o157, g157, j157)).toInt32)]) (st := []) (rc2 := (rmK 2).cells) (rs2 := (rmK 2).slots) C iX3_houseLine_161 lm_X3_120 yc_X0_addHouse yv_X0_addHouse (c_X0_addHouse (m := m) hm) (q0 := 0) rfl rfl rfl [] ((wPa Z p kk b (nI i158) (sf i158) (nw tk i158 b158) b158 e158 a158 y0 y1 y2 y3 y4 y5 ++ wTk Z kk t (nI (Lt + 1)) kf sf vf) ++ wTp Z t (nI tm) tb) rfl rfl (rmK_le (by omega) (by decide)) (Nat.le_of_ble_eq_true rfl) rfl rfl ?_
          rintro _ _ ⟨rfl, rfl⟩
          refine J_st ([]) rfl ?_
          refine J_ws (((wBk Z b L (nI (inc m 12)) lc (nI s158) (updCL nm m 12 (valT tk vf 39 (i121, b121, e121, a121, s121, o121, g121, j121))) (updC bP m 12 ((valT tk vf 40 (i151, b151, e151, a151, s151, o151, g151, j151)).toInt32)) (updC bH m 12 ((valT tk vf 40 (i157, b157, e157, a157, s157, o157, g157, j157)).toInt32)) o158 g158 j158 l0 l1 l2 l3 l4 l5 ++ wPa Z p kk b (nI i158) (sf i158) (nw tk i158 b158) b158 e158 a158 y0 y1 y2 y3 y4 y5) ++ wTk Z kk t (nI (Lt + 1)) kf sf vf) ++ wTp Z t (nI tm) tb) rfl ?_
          exact J_vret C E iX3_houseLine_164 ⟨i158, b158, e158, a158, s158, o158, g158, j158, _, _, _, by rw [houC, hR121, houH]; rw [houA, if_neg (show ¬ hnF nm (valT tk vf 39 (i121, b121, e121, a121, s121, o121, g121, j121)) m = -1 from h30), hR122, hR150, hR151, houF, houB, if_neg (show ¬ 99 < valT tk vf 40 (i151, b151, e151, a151, s151, o151, g151, j151) from h89), if_neg (show ¬ tkF bP (valT tk vf 40 (i151, b151, e151, a151, s151, o151, g151, j151)) m = true from (by rw [h101]; decide)), hR152, hR157, houG, houD, if_pos (show valT tk vf 40 (i157, b157, e157, a157, s157, o157, g157, j157) ≤ 30 from h140), hR158], by omega, by omega, rfl, rfl⟩
        · refine J_aload_n C iX3_houseLine_143 rfl rfl ?_
          refine J_iconst 5 C iX3_houseLine_144 rfl ?_
          refine J_iload C iX3_houseLine_145 rfl ?_
          refine J_cV (As := [.int 5, .int (sf i157)]) (st := []) (rc2 := (rmK 2).cells) (rs2 := (rmK 2).slots) C iX3_houseLine_147 lm_X3_96 yc_X3_tell yv_X3_tell (c_X3_tell hLt hkf htk hend (by omega) (by omega) hm) (q0 := 24) rfl rfl rfl rfl (rmK_le (by omega) (by decide)) (Nat.le_of_ble_eq_true rfl) rfl rfl ?_
          rintro _ _ ⟨i159, b159, e159, a159, s159, o159, g159, j159, hR159, hli159, hls159, rfl, rfl⟩
          refine J_st ([]) rfl ?_
          refine J_aload_n C iX3_houseLine_150 rfl rfl ?_
          refine J_get (.ref (b 0)) 24 C iX3_houseLine_151 gf_X3_31 rfl rfl ?_
          refine J_lload_n C iX3_houseLine_154 rfl rfl ?_
          refine J_lload C iX3_houseLine_155 rfl ?_
          refine J_l2i C iX3_houseLine_157 ?_
          refine J_lload C iX3_houseLine_158 rfl ?_
          refine J_l2i C iX3_houseLine_160 ?_
          refine J_cVb (As := [.long (valT tk vf 39 (i121, b121, e121, a121, s121, o121, g121, j121)), .int ((valT tk vf 40 (i151, b151, e151, a151, s151, o151, g151, j151)).toInt32), .int ((valT tk vf 40 (i157, b157, e157, a157, s157, o157, g157, j157)).toInt32)]) (st := []) (rc2 := (rmK 2).cells) (rs2 := (rmK 2).slots) C iX3_houseLine_161 lm_X3_120 yc_X0_addHouse yv_X0_addHouse (c_X0_addHouse (m := m) hm) (q0 := 0) rfl rfl rfl [] ((wPa Z p kk b (nI i159) (sf i159) (nw tk i159 b159) b159 e159 a159 y0 y1 y2 y3 y4 y5 ++ wTk Z kk t (nI (Lt + 1)) kf sf vf) ++ wTp Z t (nI tm) tb) rfl rfl (rmK_le (by omega) (by decide)) (Nat.le_of_ble_eq_true rfl) rfl rfl ?_
          rintro _ _ ⟨rfl, rfl⟩
          refine J_st ([]) rfl ?_
          refine J_ws (((wBk Z b L (nI (inc m 12)) lc (nI s159) (updCL nm m 12 (valT tk vf 39 (i121, b121, e121, a121, s121, o121, g121, j121))) (updC bP m 12 ((valT tk vf 40 (i151, b151, e151, a151, s151, o151, g151, j151)).toInt32)) (updC bH m 12 ((valT tk vf 40 (i157, b157, e157, a157, s157, o157, g157, j157)).toInt32)) o159 g159 j159 l0 l1 l2 l3 l4 l5 ++ wPa Z p kk b (nI i159) (sf i159) (nw tk i159 b159) b159 e159 a159 y0 y1 y2 y3 y4 y5) ++ wTk Z kk t (nI (Lt + 1)) kf sf vf) ++ wTp Z t (nI tm) tb) rfl ?_
          exact J_vret C E iX3_houseLine_164 ⟨i159, b159, e159, a159, s159, o159, g159, j159, _, _, _, by rw [houC, hR121, houH]; rw [houA, if_neg (show ¬ hnF nm (valT tk vf 39 (i121, b121, e121, a121, s121, o121, g121, j121)) m = -1 from h30), hR122, hR150, hR151, houF, houB, if_neg (show ¬ 99 < valT tk vf 40 (i151, b151, e151, a151, s151, o151, g151, j151) from h89), if_neg (show ¬ tkF bP (valT tk vf 40 (i151, b151, e151, a151, s151, o151, g151, j151)) m = true from (by rw [h101]; decide)), hR152, hR157, houG, houD, if_neg (show ¬ valT tk vf 40 (i157, b157, e157, a157, s157, o157, g157, j157) ≤ 30 from h140), hR158, hR159], by omega, by omega, rfl, rfl⟩
      · refine J_aload_n C iX3_houseLine_104 rfl rfl ?_
        refine J_iconst 5 C iX3_houseLine_105 rfl ?_
        refine J_iload C iX3_houseLine_106 rfl ?_
        refine J_cV (As := [.int 5, .int (sf i151)]) (st := []) (rc2 := (rmK 2).cells) (rs2 := (rmK 2).slots) C iX3_houseLine_108 lm_X3_96 yc_X3_tell yv_X3_tell (c_X3_tell hLt hkf htk hend (by omega) (by omega) hm) (q0 := 24) rfl rfl rfl rfl (rmK_le (by omega) (by decide)) (Nat.le_of_ble_eq_true rfl) rfl rfl ?_
        rintro _ _ ⟨i160, b160, e160, a160, s160, o160, g160, j160, hR160, hli160, hls160, rfl, rfl⟩
        refine J_st ([]) rfl ?_
        refine J_aload_n C iX3_houseLine_111 rfl rfl ?_
        refine J_getsK C iX3_houseLine_112 kf_X3_115 ?_
        refine J_cV (As := [.ref (zad Z 2)]) (st := []) (rc2 := (rmK 2).cells) (rs2 := (rmK 2).slots) C iX3_houseLine_115 lm_X3_85 yc_X3_take yv_X3_take (c_X3_take (k := 2) hLt hkf htk hend (by omega) (by omega) hm (by decide) (by decide) (by decide)) (q0 := 24) rfl rfl rfl rfl (rmK_le (by omega) (by decide)) (Nat.le_of_ble_eq_true rfl) rfl rfl ?_
        rintro _ _ ⟨i161, b161, e161, a161, s161, o161, g161, j161, hR161, hli161, hls161, rfl, rfl⟩
        refine J_st (.long (valT tk vf 2 (i160, b160, e160, a160, s160, o160, g160, j160)) :: []) rfl ?_
        refine J_pop2 C iX3_houseLine_118 rfl ?_
        refine J_aload_n C iX3_houseLine_119 rfl rfl ?_
        refine J_get (.int (sf i161)) 24 C iX3_houseLine_120 gf_X3_57 rfl rfl ?_
        refine J_istore [(7, .int (sf i161)), (5, .long (valT tk vf 40 (i151, b151, e151, a151, s151, o151, g151, j151))), (4, .int (sf i151)), (2, .long (valT tk vf 39 (i121, b121, e121, a121, s121, o121, g121, j121))), (1, .int (sf i121)), (0, .ref (p 0))] C iX3_houseLine_123 (by decide) rfl ?_
        refine J_aload_n C iX3_houseLine_125 rfl rfl ?_
        refine J_getsK C iX3_houseLine_126 kf_X3_106 ?_
        refine J_cV (As := [.ref (zad Z 40)]) (st := []) (rc2 := (rmK 2).cells) (rs2 := (rmK 2).slots) C iX3_houseLine_129 lm_X3_85 yc_X3_take yv_X3_take (c_X3_take (k := 40) hLt hkf htk hend (by omega) (by omega) hm (by decide) (by decide) (by decide)) (q0 := 24) rfl rfl rfl rfl (rmK_le (by omega) (by decide)) (Nat.le_of_ble_eq_true rfl) rfl rfl ?_
        rintro _ _ ⟨i162, b162, e162, a162, s162, o162, g162, j162, hR162, hli162, hls162, rfl, rfl⟩
        refine J_st (.long (valT tk vf 40 (i161, b161, e161, a161, s161, o161, g161, j161)) :: []) rfl ?_
        refine J_lstore [(8, .long (valT tk vf 40 (i161, b161, e161, a161, s161, o161, g161, j161))), (7, .int (sf i161)), (5, .long (valT tk vf 40 (i151, b151, e151, a151, s151, o151, g151, j151))), (4, .int (sf i151)), (2, .long (valT tk vf 39 (i121, b121, e121, a121, s121, o121, g121, j121))), (1, .int (sf i121)), (0, .ref (p 0))] C iX3_houseLine_132 (by decide) rfl ?_
        refine J_lload C iX3_houseLine_134 rfl ?_
        refine J_ldc2 30 C iX3_houseLine_136 (tsg_in (i := 1034) (by decide +kernel) rfl) ?_
        refine J_lcmp C iX3_houseLine_139 ?_
        refine J_ifleL 150 C iX3_houseLine_140 rfl (fun h140 => ?_) (fun h140 => ?_)
        · refine J_aload_n C iX3_houseLine_150 rfl rfl ?_
          refine J_get (.ref (b 0)) 24 C iX3_houseLine_151 gf_X3_31 rfl rfl ?_
          refine J_lload_n C iX3_houseLine_154 rfl rfl ?_
          refine J_lload C iX3_houseLine_155 rfl ?_
          refine J_l2i C iX3_houseLine_157 ?_
          refine J_lload C iX3_houseLine_158 rfl ?_
          refine J_l2i C iX3_houseLine_160 ?_
          refine J_cVb (As := [.long (valT tk vf 39 (i121, b121, e121, a121, s121, o121, g121, j121)), .int ((valT tk vf 40 (i151, b151, e151, a151, s151, o151, g151, j151)).toInt32), .int ((valT tk vf 40 (i161, b161, e161, a161, s161, o161, g161, j161)).toInt32)]) (st := []) (rc2 := (rmK 2).cells) (rs2 := (rmK 2).slots) C iX3_houseLine_161 lm_X3_120 yc_X0_addHouse yv_X0_addHouse (c_X0_addHouse (m := m) hm) (q0 := 0) rfl rfl rfl [] ((wPa Z p kk b (nI i162) (sf i162) (nw tk i162 b162) b162 e162 a162 y0 y1 y2 y3 y4 y5 ++ wTk Z kk t (nI (Lt + 1)) kf sf vf) ++ wTp Z t (nI tm) tb) rfl rfl (rmK_le (by omega) (by decide)) (Nat.le_of_ble_eq_true rfl) rfl rfl ?_
          rintro _ _ ⟨rfl, rfl⟩
          refine J_st ([]) rfl ?_
          refine J_ws (((wBk Z b L (nI (inc m 12)) lc (nI s162) (updCL nm m 12 (valT tk vf 39 (i121, b121, e121, a121, s121, o121, g121, j121))) (updC bP m 12 ((valT tk vf 40 (i151, b151, e151, a151, s151, o151, g151, j151)).toInt32)) (updC bH m 12 ((valT tk vf 40 (i161, b161, e161, a161, s161, o161, g161, j161)).toInt32)) o162 g162 j162 l0 l1 l2 l3 l4 l5 ++ wPa Z p kk b (nI i162) (sf i162) (nw tk i162 b162) b162 e162 a162 y0 y1 y2 y3 y4 y5) ++ wTk Z kk t (nI (Lt + 1)) kf sf vf) ++ wTp Z t (nI tm) tb) rfl ?_
          exact J_vret C E iX3_houseLine_164 ⟨i162, b162, e162, a162, s162, o162, g162, j162, _, _, _, by rw [houC, hR121, houH]; rw [houA, if_neg (show ¬ hnF nm (valT tk vf 39 (i121, b121, e121, a121, s121, o121, g121, j121)) m = -1 from h30), hR122, hR150, hR151, houF, houB, if_neg (show ¬ 99 < valT tk vf 40 (i151, b151, e151, a151, s151, o151, g151, j151) from h89), if_pos (show tkF bP (valT tk vf 40 (i151, b151, e151, a151, s151, o151, g151, j151)) m = true from h101), hR152, hR160, hR161, houG, houD, if_pos (show valT tk vf 40 (i161, b161, e161, a161, s161, o161, g161, j161) ≤ 30 from h140), hR162], by omega, by omega, rfl, rfl⟩
        · refine J_aload_n C iX3_houseLine_143 rfl rfl ?_
          refine J_iconst 5 C iX3_houseLine_144 rfl ?_
          refine J_iload C iX3_houseLine_145 rfl ?_
          refine J_cV (As := [.int 5, .int (sf i161)]) (st := []) (rc2 := (rmK 2).cells) (rs2 := (rmK 2).slots) C iX3_houseLine_147 lm_X3_96 yc_X3_tell yv_X3_tell (c_X3_tell hLt hkf htk hend (by omega) (by omega) hm) (q0 := 24) rfl rfl rfl rfl (rmK_le (by omega) (by decide)) (Nat.le_of_ble_eq_true rfl) rfl rfl ?_
          rintro _ _ ⟨i163, b163, e163, a163, s163, o163, g163, j163, hR163, hli163, hls163, rfl, rfl⟩
          refine J_st ([]) rfl ?_
          refine J_aload_n C iX3_houseLine_150 rfl rfl ?_
          refine J_get (.ref (b 0)) 24 C iX3_houseLine_151 gf_X3_31 rfl rfl ?_
          refine J_lload_n C iX3_houseLine_154 rfl rfl ?_
          refine J_lload C iX3_houseLine_155 rfl ?_
          refine J_l2i C iX3_houseLine_157 ?_
          refine J_lload C iX3_houseLine_158 rfl ?_
          refine J_l2i C iX3_houseLine_160 ?_
          refine J_cVb (As := [.long (valT tk vf 39 (i121, b121, e121, a121, s121, o121, g121, j121)), .int ((valT tk vf 40 (i151, b151, e151, a151, s151, o151, g151, j151)).toInt32), .int ((valT tk vf 40 (i161, b161, e161, a161, s161, o161, g161, j161)).toInt32)]) (st := []) (rc2 := (rmK 2).cells) (rs2 := (rmK 2).slots) C iX3_houseLine_161 lm_X3_120 yc_X0_addHouse yv_X0_addHouse (c_X0_addHouse (m := m) hm) (q0 := 0) rfl rfl rfl [] ((wPa Z p kk b (nI i163) (sf i163) (nw tk i163 b163) b163 e163 a163 y0 y1 y2 y3 y4 y5 ++ wTk Z kk t (nI (Lt + 1)) kf sf vf) ++ wTp Z t (nI tm) tb) rfl rfl (rmK_le (by omega) (by decide)) (Nat.le_of_ble_eq_true rfl) rfl rfl ?_
          rintro _ _ ⟨rfl, rfl⟩
          refine J_st ([]) rfl ?_
          refine J_ws (((wBk Z b L (nI (inc m 12)) lc (nI s163) (updCL nm m 12 (valT tk vf 39 (i121, b121, e121, a121, s121, o121, g121, j121))) (updC bP m 12 ((valT tk vf 40 (i151, b151, e151, a151, s151, o151, g151, j151)).toInt32)) (updC bH m 12 ((valT tk vf 40 (i161, b161, e161, a161, s161, o161, g161, j161)).toInt32)) o163 g163 j163 l0 l1 l2 l3 l4 l5 ++ wPa Z p kk b (nI i163) (sf i163) (nw tk i163 b163) b163 e163 a163 y0 y1 y2 y3 y4 y5) ++ wTk Z kk t (nI (Lt + 1)) kf sf vf) ++ wTp Z t (nI tm) tb) rfl ?_
          exact J_vret C E iX3_houseLine_164 ⟨i163, b163, e163, a163, s163, o163, g163, j163, _, _, _, by rw [houC, hR121, houH]; rw [houA, if_neg (show ¬ hnF nm (valT tk vf 39 (i121, b121, e121, a121, s121, o121, g121, j121)) m = -1 from h30), hR122, hR150, hR151, houF, houB, if_neg (show ¬ 99 < valT tk vf 40 (i151, b151, e151, a151, s151, o151, g151, j151) from h89), if_pos (show tkF bP (valT tk vf 40 (i151, b151, e151, a151, s151, o151, g151, j151)) m = true from h101), hR152, hR160, hR161, houG, houD, if_neg (show ¬ valT tk vf 40 (i161, b161, e161, a161, s161, o161, g161, j161) ≤ 30 from h140), hR162, hR163], by omega, by omega, rfl, rfl⟩

