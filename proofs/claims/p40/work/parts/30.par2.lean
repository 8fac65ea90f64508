set_option maxRecDepth 100000 in
set_option maxHeartbeats 4000000 in
theorem c_X3_product {Z : GZ} {l : Launch} {p kk t b L : Nat → Nat} {m Lt tm : Nat} {lc : Int32} {tb : Nat → Int32} {nm : Nat → Int64} {bP bH l0 l1 l2 l3 l4 l5 : Nat → Int32} {kf : Nat → Option Nat} {sf : Nat → Int32} {vf : Nat → Int64} {y0 y1 y2 y3 y4 y5 : Int32} {tk : Nat → Nat} {d : Nat} {vv : PS → PS} (hLt : Lt ≤ 400) (hkf : ∀ i, i ≤ Lt → kf i = some (zad Z (tk i))) (htk : ∀ i, tk i < 43) (hend : ∀ i, i ≤ Lt → tk i ≠ 41 → tk i ≠ 42 → i < Lt) (hm : m ≤ 12) (hd : d ≤ 8) (hv : ∀ {i s : Nat} {b0 : Bool} {e a : Int32} {o g j : Nat → Int32}, i ≤ Lt → s ≤ 400 → Ct Z l yX3_value cX3_value 3 none (rmK (36 - 4 * d)) [.ref (p 0), .int (nI d)] (((wBk Z b L (nI m) lc (nI s) nm bP bH o g j l0 l1 l2 l3 l4 l5 ++ wPa Z p kk b (nI i) (sf i) (nw tk i b0) b0 e a y0 y1 y2 y3 y4 y5) ++ wTk Z kk t (nI (Lt + 1)) kf sf vf) ++ wTp Z t (nI tm) tb) (fun v w => ∃ i2 b2 e2 a2 s2 o2 g2 j2, vv (i, b0, e, a, s, o, g, j) = (i2, b2, e2, a2, s2, o2, g2, j2) ∧ i2 ≤ Lt ∧ s2 ≤ 400 ∧ v = none ∧ w = (((wBk Z b L (nI m) lc (nI s2) nm bP bH o2 g2 j2 l0 l1 l2 l3 l4 l5 ++ wPa Z p kk b (nI i2) (sf i2) (nw tk i2 b2) b2 e2 a2 y0 y1 y2 y3 y4 y5) ++ wTk Z kk t (nI (Lt + 1)) kf sf vf) ++ wTp Z t (nI tm) tb))) {i s : Nat} {b0 : Bool} {e a : Int32} {o g j : Nat → Int32} (hi : i ≤ Lt) (hs : s ≤ 400)  : Ct Z l yX3_product cX3_product 4 none (rmK (37 - 4 * d)) [.ref (p 0), .int (nI d)] (((wBk Z b L (nI m) lc (nI s) nm bP bH o g j l0 l1 l2 l3 l4 l5 ++ wPa Z p kk b (nI i) (sf i) (nw tk i b0) b0 e a y0 y1 y2 y3 y4 y5) ++ wTk Z kk t (nI (Lt + 1)) kf sf vf) ++ wTp Z t (nI tm) tb) (fun v w => ∃ i2 b2 e2 a2 s2 o2 g2 j2, prodC tk sf vv (i, b0, e, a, s, o, g, j) = (i2, b2, e2, a2, s2, o2, g2, j2) ∧ i2 ≤ Lt ∧ s2 ≤ 400 ∧ v = none ∧ w = (((wBk Z b L (nI m) lc (nI s2) nm bP bH o2 g2 j2 l0 l1 l2 l3 l4 l5 ++ wPa Z p kk b (nI i2) (sf i2) (nw tk i2 b2) b2 e2 a2 y0 y1 y2 y3 y4 y5) ++ wTk Z kk t (nI (Lt + 1)) kf sf vf) ++ wTp Z t (nI tm) tb)) := by
  refine Ct.ofJ (own := RX3) (nm := "product") (lv0 := [(0, .ref (p 0)), (1, .int (nI d))]) (by decide) rfl rfl (Nat.le_of_ble_eq_true rfl) rfl (fun X hXl C E => ?_)
  subst hXl
  refine J_aload_n C iX3_product_0 rfl rfl ?_
  refine J_iload_n C iX3_product_1 rfl rfl ?_
  refine J_cV (As := [.int (nI d)]) (st := []) (rc2 := (rmK (37 - 4 * d)).cells) (rs2 := (rmK (37 - 4 * d)).slots) C iX3_product_2 lm_X3_255 yc_X3_value yv_X3_value (hv (by omega) (by omega)) (q0 := 24) rfl rfl rfl rfl (rmK_le (by omega) (by decide)) (Nat.le_of_ble_eq_true rfl) rfl rfl ?_
  rintro _ _ ⟨i16, b16, e16, a16, s16, o16, g16, j16, hR16, hli16, hls16, rfl, rfl⟩
  refine J_st ([]) rfl ?_
  refine J_iconst 0 C iX3_product_5 rfl ?_
  refine J_istore_n [(2, .int 0), (0, .ref (p 0)), (1, .int (nI d))] C iX3_product_6 rfl (by decide) rfl ?_
  refine J_lvm [(2, .int 0), (1, .int (nI d)), (0, .ref (p 0))] rfl ?_
  refine J_forI (σ := PS) (fun k q => [(2, .int (nI k)), (1, .int (nI d)), (0, .ref (p 0))]) (fun k q => (((wBk Z b L (nI m) lc (nI q.2.2.2.2.1) nm bP bH q.2.2.2.2.2.1 q.2.2.2.2.2.2.1 q.2.2.2.2.2.2.2 l0 l1 l2 l3 l4 l5 ++ wPa Z p kk b (nI q.1) (sf q.1) (nw tk q.1 q.2.1) q.2.1 q.2.2.1 q.2.2.2.1 y0 y1 y2 y3 y4 y5) ++ wTk Z kk t (nI (Lt + 1)) kf sf vf) ++ wTp Z t (nI tm) tb)) (fun k q => loopC tk sf 32 33 12 13 vv (400 - k) q = loopC tk sf 32 33 12 13 vv 400 (i16, b16, e16, a16, s16, o16, g16, j16) ∧ q.1 ≤ Lt ∧ q.2.2.2.2.1 ≤ 400) 400 0 (i16, b16, e16, a16, s16, o16, g16, j16) (by omega) ⟨rfl, by omega, by omega⟩ ?_ ?_
  · rintro ⟨i17, b17, e17, a17, s17, o17, g17, j17⟩ ⟨hI, hli17, hls17⟩
    dsimp only at hli17 hls17
    refine J_iload_n C iX3_product_7 rfl rfl ?_
    refine J_sipush 400 C iX3_product_8 rfl ?_
    refine J_icmpge 82 C iX3_product_11 rfl (fun h11 => ?_) (fun h11 => absurd (by decide) h11)
    exact J_vret C E iX3_product_82 ⟨i17, b17, e17, a17, s17, o17, g17, j17, by rw [prodC, hR16, ← hI]; rfl, by omega, by omega, rfl, rfl⟩
  · rintro k ⟨i17, b17, e17, a17, s17, o17, g17, j17⟩ hk0 hk ⟨hI, hli17, hls17⟩ ih
    dsimp only at hli17 hls17
    refine J_iload_n C iX3_product_7 rfl rfl ?_
    refine J_sipush 400 C iX3_product_8 rfl ?_
    refine J_icmpge 82 C iX3_product_11 rfl (fun h11 => absurd h11 (nI_ge (a := k) (b := 400) hk (by decide))) (fun h11 => ?_)
    refine J_aload_n C iX3_product_14 rfl rfl ?_
    refine J_get (.ref (zad Z (nw tk i17 b17))) 24 C iX3_product_15 gf_X3_24 rfl rfl ?_
    refine J_getsK C iX3_product_18 kf_X3_258 ?_
    by_cases hs21 : (nw tk i17 b17) = 32
    · refine J_acmpeq 34 C iX3_product_21 rfl (fun h21 => ?_) (fun h21 => absurd (congrArg (zad Z) hs21) h21)
      refine J_aload_n C iX3_product_34 rfl rfl ?_
      refine J_get (.ref (zad Z (nw tk i17 b17))) 24 C iX3_product_35 gf_X3_24 rfl rfl ?_
      refine J_getsK C iX3_product_38 kf_X3_258 ?_
      refine J_acmpne 49 C iX3_product_41 rfl (fun h41 => absurd (congrArg (zad Z) hs21) h41) (fun h41 => ?_)
      refine J_bipush 12 C iX3_product_44 rfl ?_
      refine J_goto 51 C iX3_product_46 rfl ?_
      refine J_istore_n [(3, .int 12), (2, .int (nI k)), (1, .int (nI d)), (0, .ref (p 0))] C iX3_product_51 rfl (by decide) rfl ?_
      refine J_aload_n C iX3_product_52 rfl rfl ?_
      refine J_aload_n C iX3_product_53 rfl rfl ?_
      refine J_get (.ref (zad Z (nw tk i17 b17))) 24 C iX3_product_54 gf_X3_24 rfl rfl ?_
      refine J_cV (As := [.ref (zad Z (nw tk i17 b17))]) (st := []) (rc2 := (rmK (37 - 4 * d)).cells) (rs2 := (rmK (37 - 4 * d)).slots) C iX3_product_57 lm_X3_85 yc_X3_take yv_X3_take (c_X3_take (k := nw tk i17 b17) hLt hkf htk hend (by omega) (by omega) hm (nw_lt htk _ _) (by rw [hs21]; decide) (by rw [hs21]; decide)) (q0 := 24) rfl rfl rfl rfl (rmK_le (by omega) (by decide)) (Nat.le_of_ble_eq_true rfl) rfl rfl ?_
      rintro _ _ ⟨i18, b18, e18, a18, s18, o18, g18, j18, hR18, hli18, hls18, rfl, rfl⟩
      refine J_st (.long (valT tk vf (nw tk i17 b17) (i17, b17, e17, a17, s17, o17, g17, j17)) :: []) rfl ?_
      refine J_pop2 C iX3_product_60 rfl ?_
      refine J_aload_n C iX3_product_61 rfl rfl ?_
      refine J_iload_n C iX3_product_62 rfl rfl ?_
      refine J_cV (As := [.int (nI d)]) (st := []) (rc2 := (rmK (37 - 4 * d)).cells) (rs2 := (rmK (37 - 4 * d)).slots) C iX3_product_63 lm_X3_255 yc_X3_value yv_X3_value (hv (by omega) (by omega)) (q0 := 24) rfl rfl rfl rfl (rmK_le (by omega) (by decide)) (Nat.le_of_ble_eq_true rfl) rfl rfl ?_
      rintro _ _ ⟨i19, b19, e19, a19, s19, o19, g19, j19, hR19, hli19, hls19, rfl, rfl⟩
      refine J_st ([]) rfl ?_
      refine J_aload_n C iX3_product_66 rfl rfl ?_
      refine J_get (.ref (b 0)) 24 C iX3_product_67 gf_X3_31 rfl rfl ?_
      refine J_iload_n C iX3_product_70 rfl rfl ?_
      refine J_iconst 0 C iX3_product_71 rfl ?_
      refine J_iconst 0 C iX3_product_72 rfl ?_
      refine J_cVb (As := [.int 12, .int 0, .int 0]) (st := []) (rc2 := (rmK (37 - 4 * d)).cells) (rs2 := (rmK (37 - 4 * d)).slots) C iX3_product_73 lm_X3_195 yc_X0_addStep yv_X0_addStep (c_X0_addStep (m := s19) (by omega)) (q0 := 0) rfl rfl rfl [] ((wPa Z p kk b (nI i19) (sf i19) (nw tk i19 b19) b19 e19 a19 y0 y1 y2 y3 y4 y5 ++ wTk Z kk t (nI (Lt + 1)) kf sf vf) ++ wTp Z t (nI tm) tb) rfl rfl (rmK_le (by omega) (by decide)) (Nat.le_of_ble_eq_true rfl) rfl rfl ?_
      rintro _ _ ⟨rfl, rfl⟩
      refine J_st ([]) rfl ?_
      refine J_ws (((wBk Z b L (nI m) lc (nI (inc s19 400)) nm bP bH (updC o19 s19 400 12) (updC g19 s19 400 0) (updC j19 s19 400 0) l0 l1 l2 l3 l4 l5 ++ wPa Z p kk b (nI i19) (sf i19) (nw tk i19 b19) b19 e19 a19 y0 y1 y2 y3 y4 y5) ++ wTk Z kk t (nI (Lt + 1)) kf sf vf) ++ wTp Z t (nI tm) tb) rfl ?_
      have hic20 := inc_le (s := s19) (by omega)
      refine J_iinc ((nI k) + 1) [(2, .int ((nI k) + 1)), (3, .int 12), (1, .int (nI d)), (0, .ref (p 0))] C iX3_product_76 rfl rfl (by decide) rfl ?_
      rw [show (nI k) + 1 = nI (k + 1) from nI_add _ _]
      refine J_goto 7 C iX3_product_79 rfl ?_
      refine J_lvm [(2, .int (nI (k + 1))), (1, .int (nI d)), (0, .ref (p 0))] rfl ?_
      exact ih (i19, b19, e19, a19, (inc s19 400), updC o19 s19 400 12, updC g19 s19 400 0, updC j19 s19 400 0) ⟨by rw [← hI, show 400 - k = 400 - (k + 1) + 1 by omega, loopC]; rw [if_pos (show nowC tk (i17, b17, e17, a17, s17, o17, g17, j17) = 32 from hs21), show nowC tk (i17, b17, e17, a17, s17, o17, g17, j17) = nw tk i17 b17 from rfl, hR18, hR19]; first | done | rfl, by omega, by omega⟩
    · refine J_acmpeq 34 C iX3_product_21 rfl (fun h21 => absurd h21 (fun e => hs21 (zad_inj C (nw_lt htk _ _) (by decide) e))) (fun h21 => ?_)
      refine J_aload_n C iX3_product_24 rfl rfl ?_
      refine J_get (.ref (zad Z (nw tk i17 b17))) 24 C iX3_product_25 gf_X3_24 rfl rfl ?_
      refine J_getsK C iX3_product_28 kf_X3_261 ?_
      by_cases hs31 : (nw tk i17 b17) = 33
      · refine J_acmpne 82 C iX3_product_31 rfl (fun h31 => absurd (congrArg (zad Z) hs31) h31) (fun h31 => ?_)
        refine J_aload_n C iX3_product_34 rfl rfl ?_
        refine J_get (.ref (zad Z (nw tk i17 b17))) 24 C iX3_product_35 gf_X3_24 rfl rfl ?_
        refine J_getsK C iX3_product_38 kf_X3_258 ?_
        refine J_acmpne 49 C iX3_product_41 rfl (fun h41 => ?_) (fun h41 => absurd h41 (fun e => absurd (hs31.symm.trans (zad_inj C (nw_lt htk _ _) (by decide) e)) (by decide)))
        refine J_bipush 13 C iX3_product_49 rfl ?_
        refine J_istore_n [(3, .int 13), (2, .int (nI k)), (1, .int (nI d)), (0, .ref (p 0))] C iX3_product_51 rfl (by decide) rfl ?_
        refine J_aload_n C iX3_product_52 rfl rfl ?_
        refine J_aload_n C iX3_product_53 rfl rfl ?_
        refine J_get (.ref (zad Z (nw tk i17 b17))) 24 C iX3_product_54 gf_X3_24 rfl rfl ?_
        refine J_cV (As := [.ref (zad Z (nw tk i17 b17))]) (st := []) (rc2 := (rmK (37 - 4 * d)).cells) (rs2 := (rmK (37 - 4 * d)).slots) C iX3_product_57 lm_X3_85 yc_X3_take yv_X3_take (c_X3_take (k := nw tk i17 b17) hLt hkf htk hend (by omega) (by omega) hm (nw_lt htk _ _) (by rw [hs31]; decide) (by rw [hs31]; decide)) (q0 := 24) rfl rfl rfl rfl (rmK_le (by omega) (by decide)) (Nat.le_of_ble_eq_true rfl) rfl rfl ?_
        rintro _ _ ⟨i21, b21, e21, a21, s21, o21, g21, j21, hR21, hli21, hls21, rfl, rfl⟩
        refine J_st (.long (valT tk vf (nw tk i17 b17) (i17, b17, e17, a17, s17, o17, g17, j17)) :: []) rfl ?_
        refine J_pop2 C iX3_product_60 rfl ?_
        refine J_aload_n C iX3_product_61 rfl rfl ?_
        refine J_iload_n C iX3_product_62 rfl rfl ?_
        refine J_cV (As := [.int (nI d)]) (st := []) (rc2 := (rmK (37 - 4 * d)).cells) (rs2 := (rmK (37 - 4 * d)).slots) C iX3_product_63 lm_X3_255 yc_X3_value yv_X3_value (hv (by omega) (by omega)) (q0 := 24) rfl rfl rfl rfl (rmK_le (by omega) (by decide)) (Nat.le_of_ble_eq_true rfl) rfl rfl ?_
        rintro _ _ ⟨i22, b22, e22, a22, s22, o22, g22, j22, hR22, hli22, hls22, rfl, rfl⟩
        refine J_st ([]) rfl ?_
        refine J_aload_n C iX3_product_66 rfl rfl ?_
        refine J_get (.ref (b 0)) 24 C iX3_product_67 gf_X3_31 rfl rfl ?_
        refine J_iload_n C iX3_product_70 rfl rfl ?_
        refine J_iconst 0 C iX3_product_71 rfl ?_
        refine J_iconst 0 C iX3_product_72 rfl ?_
        refine J_cVb (As := [.int 13, .int 0, .int 0]) (st := []) (rc2 := (rmK (37 - 4 * d)).cells) (rs2 := (rmK (37 - 4 * d)).slots) C iX3_product_73 lm_X3_195 yc_X0_addStep yv_X0_addStep (c_X0_addStep (m := s22) (by omega)) (q0 := 0) rfl rfl rfl [] ((wPa Z p kk b (nI i22) (sf i22) (nw tk i22 b22) b22 e22 a22 y0 y1 y2 y3 y4 y5 ++ wTk Z kk t (nI (Lt + 1)) kf sf vf) ++ wTp Z t (nI tm) tb) rfl rfl (rmK_le (by omega) (by decide)) (Nat.le_of_ble_eq_true rfl) rfl rfl ?_
        rintro _ _ ⟨rfl, rfl⟩
        refine J_st ([]) rfl ?_
        refine J_ws (((wBk Z b L (nI m) lc (nI (inc s22 400)) nm bP bH (updC o22 s22 400 13) (updC g22 s22 400 0) (updC j22 s22 400 0) l0 l1 l2 l3 l4 l5 ++ wPa Z p kk b (nI i22) (sf i22) (nw tk i22 b22) b22 e22 a22 y0 y1 y2 y3 y4 y5) ++ wTk Z kk t (nI (Lt + 1)) kf sf vf) ++ wTp Z t (nI tm) tb) rfl ?_
        have hic23 := inc_le (s := s22) (by omega)
        refine J_iinc ((nI k) + 1) [(2, .int ((nI k) + 1)), (3, .int 13), (1, .int (nI d)), (0, .ref (p 0))] C iX3_product_76 rfl rfl (by decide) rfl ?_
        rw [show (nI k) + 1 = nI (k + 1) from nI_add _ _]
        refine J_goto 7 C iX3_product_79 rfl ?_
        refine J_lvm [(2, .int (nI (k + 1))), (1, .int (nI d)), (0, .ref (p 0))] rfl ?_
        exact ih (i22, b22, e22, a22, (inc s22 400), updC o22 s22 400 13, updC g22 s22 400 0, updC j22 s22 400 0) ⟨by rw [← hI, show 400 - k = 400 - (k + 1) + 1 by omega, loopC]; rw [if_neg (show ¬ nowC tk (i17, b17, e17, a17, s17, o17, g17, j17) = 32 from hs21), if_pos (show nowC tk (i17, b17, e17, a17, s17, o17, g17, j17) = 33 from hs31), show nowC tk (i17, b17, e17, a17, s17, o17, g17, j17) = nw tk i17 b17 from rfl, hR21, hR22]; first | done | rfl, by omega, by omega⟩
      · refine J_acmpne 82 C iX3_product_31 rfl (fun h31 => ?_) (fun h31 => absurd h31 (fun e => hs31 (zad_inj C (nw_lt htk _ _) (by decide) e)))
        exact J_vret C E iX3_product_82 ⟨i17, b17, e17, a17, s17, o17, g17, j17, by rw [prodC, hR16, ← hI, show 400 - k = 400 - (k + 1) + 1 by omega, loopC]; rw [if_neg (show ¬ nowC tk (i17, b17, e17, a17, s17, o17, g17, j17) = 32 from hs21), if_neg (show ¬ nowC tk (i17, b17, e17, a17, s17, o17, g17, j17) = 33 from hs31)], by omega, by omega, rfl, rfl⟩

set_option maxRecDepth 100000 in
set_option maxHeartbeats 4000000 in
theorem c_X3_sum {Z : GZ} {l : Launch} {p kk t b L : Nat → Nat} {m Lt tm : Nat} {lc : Int32} {tb : Nat → Int32} {nm : Nat → Int64} {bP bH l0 l1 l2 l3 l4 l5 : Nat → Int32} {kf : Nat → Option Nat} {sf : Nat → Int32} {vf : Nat → Int64} {y0 y1 y2 y3 y4 y5 : Int32} {tk : Nat → Nat} {d : Nat} {vv : PS → PS} (hLt : Lt ≤ 400) (hkf : ∀ i, i ≤ Lt → kf i = some (zad Z (tk i))) (htk : ∀ i, tk i < 43) (hend : ∀ i, i ≤ Lt → tk i ≠ 41 → tk i ≠ 42 → i < Lt) (hm : m ≤ 12) (hd : d ≤ 8) (hv : ∀ {i s : Nat} {b0 : Bool} {e a : Int32} {o g j : Nat → Int32}, i ≤ Lt → s ≤ 400 → Ct Z l yX3_product cX3_product 4 none (rmK (37 - 4 * d)) [.ref (p 0), .int (nI d)] (((wBk Z b L (nI m) lc (nI s) nm bP bH o g j l0 l1 l2 l3 l4 l5 ++ wPa Z p kk b (nI i) (sf i) (nw tk i b0) b0 e a y0 y1 y2 y3 y4 y5) ++ wTk Z kk t (nI (Lt + 1)) kf sf vf) ++ wTp Z t (nI tm) tb) (fun v w => ∃ i2 b2 e2 a2 s2 o2 g2 j2, prodC tk sf vv (i, b0, e, a, s, o, g, j) = (i2, b2, e2, a2, s2, o2, g2, j2) ∧ i2 ≤ Lt ∧ s2 ≤ 400 ∧ v = none ∧ w = (((wBk Z b L (nI m) lc (nI s2) nm bP bH o2 g2 j2 l0 l1 l2 l3 l4 l5 ++ wPa Z p kk b (nI i2) (sf i2) (nw tk i2 b2) b2 e2 a2 y0 y1 y2 y3 y4 y5) ++ wTk Z kk t (nI (Lt + 1)) kf sf vf) ++ wTp Z t (nI tm) tb))) {i s : Nat} {b0 : Bool} {e a : Int32} {o g j : Nat → Int32} (hi : i ≤ Lt) (hs : s ≤ 400)  : Ct Z l yX3_sum cX3_sum 4 none (rmK (38 - 4 * d)) [.ref (p 0), .int (nI d)] (((wBk Z b L (nI m) lc (nI s) nm bP bH o g j l0 l1 l2 l3 l4 l5 ++ wPa Z p kk b (nI i) (sf i) (nw tk i b0) b0 e a y0 y1 y2 y3 y4 y5) ++ wTk Z kk t (nI (Lt + 1)) kf sf vf) ++ wTp Z t (nI tm) tb) (fun v w => ∃ i2 b2 e2 a2 s2 o2 g2 j2, sumC tk sf vv (i, b0, e, a, s, o, g, j) = (i2, b2, e2, a2, s2, o2, g2, j2) ∧ i2 ≤ Lt ∧ s2 ≤ 400 ∧ v = none ∧ w = (((wBk Z b L (nI m) lc (nI s2) nm bP bH o2 g2 j2 l0 l1 l2 l3 l4 l5 ++ wPa Z p kk b (nI i2) (sf i2) (nw tk i2 b2) b2 e2 a2 y0 y1 y2 y3 y4 y5) ++ wTk Z kk t (nI (Lt + 1)) kf sf vf) ++ wTp Z t (nI tm) tb)) := by
  refine Ct.ofJ (own := RX3) (nm := "sum") (lv0 := [(0, .ref (p 0)), (1, .int (nI d))]) (by decide) rfl rfl (Nat.le_of_ble_eq_true rfl) rfl (fun X hXl C E => ?_)
  subst hXl
  refine J_aload_n C iX3_sum_0 rfl rfl ?_
  refine J_iload_n C iX3_sum_1 rfl rfl ?_
  refine J_cV (As := [.int (nI d)]) (st := []) (rc2 := (rmK (38 - 4 * d)).cells) (rs2 := (rmK (38 - 4 * d)).slots) C iX3_sum_2 lm_X3_246 yc_X3_product yv_X3_product (hv (by omega) (by omega)) (q0 := 24) rfl rfl rfl rfl (rmK_le (by omega) (by decide)) (Nat.le_of_ble_eq_true rfl) rfl rfl ?_
  rintro _ _ ⟨i24, b24, e24, a24, s24, o24, g24, j24, hR24, hli24, hls24, rfl, rfl⟩
  refine J_st ([]) rfl ?_
  refine J_iconst 0 C iX3_sum_5 rfl ?_
  refine J_istore_n [(2, .int 0), (0, .ref (p 0)), (1, .int (nI d))] C iX3_sum_6 rfl (by decide) rfl ?_
  refine J_lvm [(2, .int 0), (1, .int (nI d)), (0, .ref (p 0))] rfl ?_
  refine J_forI (σ := PS) (fun k q => [(2, .int (nI k)), (1, .int (nI d)), (0, .ref (p 0))]) (fun k q => (((wBk Z b L (nI m) lc (nI q.2.2.2.2.1) nm bP bH q.2.2.2.2.2.1 q.2.2.2.2.2.2.1 q.2.2.2.2.2.2.2 l0 l1 l2 l3 l4 l5 ++ wPa Z p kk b (nI q.1) (sf q.1) (nw tk q.1 q.2.1) q.2.1 q.2.2.1 q.2.2.2.1 y0 y1 y2 y3 y4 y5) ++ wTk Z kk t (nI (Lt + 1)) kf sf vf) ++ wTp Z t (nI tm) tb)) (fun k q => loopC tk sf 30 31 10 11 (prodC tk sf vv) (400 - k) q = loopC tk sf 30 31 10 11 (prodC tk sf vv) 400 (i24, b24, e24, a24, s24, o24, g24, j24) ∧ q.1 ≤ Lt ∧ q.2.2.2.2.1 ≤ 400) 400 0 (i24, b24, e24, a24, s24, o24, g24, j24) (by omega) ⟨rfl, by omega, by omega⟩ ?_ ?_
  · rintro ⟨i25, b25, e25, a25, s25, o25, g25, j25⟩ ⟨hI, hli25, hls25⟩
    dsimp only at hli25 hls25
    refine J_iload_n C iX3_sum_7 rfl rfl ?_
    refine J_sipush 400 C iX3_sum_8 rfl ?_
    refine J_icmpge 82 C iX3_sum_11 rfl (fun h11 => ?_) (fun h11 => absurd (by decide) h11)
    exact J_vret C E iX3_sum_82 ⟨i25, b25, e25, a25, s25, o25, g25, j25, by rw [sumC, hR24, ← hI]; rfl, by omega, by omega, rfl, rfl⟩
  · rintro k ⟨i25, b25, e25, a25, s25, o25, g25, j25⟩ hk0 hk ⟨hI, hli25, hls25⟩ ih
    dsimp only at hli25 hls25
    refine J_iload_n C iX3_sum_7 rfl rfl ?_
    refine J_sipush 400 C iX3_sum_8 rfl ?_
    refine J_icmpge 82 C iX3_sum_11 rfl (fun h11 => absurd h11 (nI_ge (a := k) (b := 400) hk (by decide))) (fun h11 => ?_)
    refine J_aload_n C iX3_sum_14 rfl rfl ?_
    refine J_get (.ref (zad Z (nw tk i25 b25))) 24 C iX3_sum_15 gf_X3_24 rfl rfl ?_
    refine J_getsK C iX3_sum_18 kf_X3_249 ?_
    by_cases hs21 : (nw tk i25 b25) = 30
    · refine J_acmpeq 34 C iX3_sum_21 rfl (fun h21 => ?_) (fun h21 => absurd (congrArg (zad Z) hs21) h21)
      refine J_aload_n C iX3_sum_34 rfl rfl ?_
      refine J_get (.ref (zad Z (nw tk i25 b25))) 24 C iX3_sum_35 gf_X3_24 rfl rfl ?_
      refine J_getsK C iX3_sum_38 kf_X3_249 ?_
      refine J_acmpne 49 C iX3_sum_41 rfl (fun h41 => absurd (congrArg (zad Z) hs21) h41) (fun h41 => ?_)
      refine J_bipush 10 C iX3_sum_44 rfl ?_
      refine J_goto 51 C iX3_sum_46 rfl ?_
      refine J_istore_n [(3, .int 10), (2, .int (nI k)), (1, .int (nI d)), (0, .ref (p 0))] C iX3_sum_51 rfl (by decide) rfl ?_
      refine J_aload_n C iX3_sum_52 rfl rfl ?_
      refine J_aload_n C iX3_sum_53 rfl rfl ?_
      refine J_get (.ref (zad Z (nw tk i25 b25))) 24 C iX3_sum_54 gf_X3_24 rfl rfl ?_
      refine J_cV (As := [.ref (zad Z (nw tk i25 b25))]) (st := []) (rc2 := (rmK (38 - 4 * d)).cells) (rs2 := (rmK (38 - 4 * d)).slots) C iX3_sum_57 lm_X3_85 yc_X3_take yv_X3_take (c_X3_take (k := nw tk i25 b25) hLt hkf htk hend (by omega) (by omega) hm (nw_lt htk _ _) (by rw [hs21]; decide) (by rw [hs21]; decide)) (q0 := 24) rfl rfl rfl rfl (rmK_le (by omega) (by decide)) (Nat.le_of_ble_eq_true rfl) rfl rfl ?_
      rintro _ _ ⟨i26, b26, e26, a26, s26, o26, g26, j26, hR26, hli26, hls26, rfl, rfl⟩
      refine J_st (.long (valT tk vf (nw tk i25 b25) (i25, b25, e25, a25, s25, o25, g25, j25)) :: []) rfl ?_
      refine J_pop2 C iX3_sum_60 rfl ?_
      refine J_aload_n C iX3_sum_61 rfl rfl ?_
      refine J_iload_n C iX3_sum_62 rfl rfl ?_
      refine J_cV (As := [.int (nI d)]) (st := []) (rc2 := (rmK (38 - 4 * d)).cells) (rs2 := (rmK (38 - 4 * d)).slots) C iX3_sum_63 lm_X3_246 yc_X3_product yv_X3_product (hv (by omega) (by omega)) (q0 := 24) rfl rfl rfl rfl (rmK_le (by omega) (by decide)) (Nat.le_of_ble_eq_true rfl) rfl rfl ?_
      rintro _ _ ⟨i27, b27, e27, a27, s27, o27, g27, j27, hR27, hli27, hls27, rfl, rfl⟩
      refine J_st ([]) rfl ?_
      refine J_aload_n C iX3_sum_66 rfl rfl ?_
      refine J_get (.ref (b 0)) 24 C iX3_sum_67 gf_X3_31 rfl rfl ?_
      refine J_iload_n C iX3_sum_70 rfl rfl ?_
      refine J_iconst 0 C iX3_sum_71 rfl ?_
      refine J_iconst 0 C iX3_sum_72 rfl ?_
      refine J_cVb (As := [.int 10, .int 0, .int 0]) (st := []) (rc2 := (rmK (38 - 4 * d)).cells) (rs2 := (rmK (38 - 4 * d)).slots) C iX3_sum_73 lm_X3_195 yc_X0_addStep yv_X0_addStep (c_X0_addStep (m := s27) (by omega)) (q0 := 0) rfl rfl rfl [] ((wPa Z p kk b (nI i27) (sf i27) (nw tk i27 b27) b27 e27 a27 y0 y1 y2 y3 y4 y5 ++ wTk Z kk t (nI (Lt + 1)) kf sf vf) ++ wTp Z t (nI tm) tb) rfl rfl (rmK_le (by omega) (by decide)) (Nat.le_of_ble_eq_true rfl) rfl rfl ?_
      rintro _ _ ⟨rfl, rfl⟩
      refine J_st ([]) rfl ?_
      refine J_ws (((wBk Z b L (nI m) lc (nI (inc s27 400)) nm bP bH (updC o27 s27 400 10) (updC g27 s27 400 0) (updC j27 s27 400 0) l0 l1 l2 l3 l4 l5 ++ wPa Z p kk b (nI i27) (sf i27) (nw tk i27 b27) b27 e27 a27 y0 y1 y2 y3 y4 y5) ++ wTk Z kk t (nI (Lt + 1)) kf sf vf) ++ wTp Z t (nI tm) tb) rfl ?_
      have hic28 := inc_le (s := s27) (by omega)
      refine J_iinc ((nI k) + 1) [(2, .int ((nI k) + 1)), (3, .int 10), (1, .int (nI d)), (0, .ref (p 0))] C iX3_sum_76 rfl rfl (by decide) rfl ?_
      rw [show (nI k) + 1 = nI (k + 1) from nI_add _ _]
      refine J_goto 7 C iX3_sum_79 rfl ?_
      refine J_lvm [(2, .int (nI (k + 1))), (1, .int (nI d)), (0, .ref (p 0))] rfl ?_
      exact ih (i27, b27, e27, a27, (inc s27 400), updC o27 s27 400 10, updC g27 s27 400 0, updC j27 s27 400 0) ⟨by rw [← hI, show 400 - k = 400 - (k + 1) + 1 by omega, loopC]; rw [if_pos (show nowC tk (i25, b25, e25, a25, s25, o25, g25, j25) = 30 from hs21), show nowC tk (i25, b25, e25, a25, s25, o25, g25, j25) = nw tk i25 b25 from rfl, hR26, hR27]; first | done | rfl, by omega, by omega⟩
    · refine J_acmpeq 34 C iX3_sum_21 rfl (fun h21 => absurd h21 (fun e => hs21 (zad_inj C (nw_lt htk _ _) (by decide) e))) (fun h21 => ?_)
      refine J_aload_n C iX3_sum_24 rfl rfl ?_
      refine J_get (.ref (zad Z (nw tk i25 b25))) 24 C iX3_sum_25 gf_X3_24 rfl rfl ?_
      refine J_getsK C iX3_sum_28 kf_X3_252 ?_
      by_cases hs31 : (nw tk i25 b25) = 31
      · refine J_acmpne 82 C iX3_sum_31 rfl (fun h31 => absurd (congrArg (zad Z) hs31) h31) (fun h31 => ?_)
        refine J_aload_n C iX3_sum_34 rfl rfl ?_
        refine J_get (.ref (zad Z (nw tk i25 b25))) 24 C iX3_sum_35 gf_X3_24 rfl rfl ?_
        refine J_getsK C iX3_sum_38 kf_X3_249 ?_
        refine J_acmpne 49 C iX3_sum_41 rfl (fun h41 => ?_) (fun h41 => absurd h41 (fun e => absurd (hs31.symm.trans (zad_inj C (nw_lt htk _ _) (by decide) e)) (by decide)))
        refine J_bipush 11 C iX3_sum_49 rfl ?_
        refine J_istore_n [(3, .int 11), (2, .int (nI k)), (1, .int (nI d)), (0, .ref (p 0))] C iX3_sum_51 rfl (by decide) rfl ?_
        refine J_aload_n C iX3_sum_52 rfl rfl ?_
        refine J_aload_n C iX3_sum_53 rfl rfl ?_
        refine J_get (.ref (zad Z (nw tk i25 b25))) 24 C iX3_sum_54 gf_X3_24 rfl rfl ?_
        refine J_cV (As := [.ref (zad Z (nw tk i25 b25))]) (st := []) (rc2 := (rmK (38 - 4 * d)).cells) (rs2 := (rmK (38 - 4 * d)).slots) C iX3_sum_57 lm_X3_85 yc_X3_take yv_X3_take (c_X3_take (k := nw tk i25 b25) hLt hkf htk hend (by omega) (by omega) hm (nw_lt htk _ _) (by rw [hs31]; decide) (by rw [hs31]; decide)) (q0 := 24) rfl rfl rfl rfl (rmK_le (by omega) (by decide)) (Nat.le_of_ble_eq_true rfl) rfl rfl ?_
        rintro _ _ ⟨i29, b29, e29, a29, s29, o29, g29, j29, hR29, hli29, hls29, rfl, rfl⟩
        refine J_st (.long (valT tk vf (nw tk i25 b25) (i25, b25, e25, a25, s25, o25, g25, j25)) :: []) rfl ?_
        refine J_pop2 C iX3_sum_60 rfl ?_
        refine J_aload_n C iX3_sum_61 rfl rfl ?_
        refine J_iload_n C iX3_sum_62 rfl rfl ?_
        refine J_cV (As := [.int (nI d)]) (st := []) (rc2 := (rmK (38 - 4 * d)).cells) (rs2 := (rmK (38 - 4 * d)).slots) C iX3_sum_63 lm_X3_246 yc_X3_product yv_X3_product (hv (by omega) (by omega)) (q0 := 24) rfl rfl rfl rfl (rmK_le (by omega) (by decide)) (Nat.le_of_ble_eq_true rfl) rfl rfl ?_
        rintro _ _ ⟨i30, b30, e30, a30, s30, o30, g30, j30, hR30, hli30, hls30, rfl, rfl⟩
        refine J_st ([]) rfl ?_
        refine J_aload_n C iX3_sum_66 rfl rfl ?_
        refine J_get (.ref (b 0)) 24 C iX3_sum_67 gf_X3_31 rfl rfl ?_
        refine J_iload_n C iX3_sum_70 rfl rfl ?_
        refine J_iconst 0 C iX3_sum_71 rfl ?_
        refine J_iconst 0 C iX3_sum_72 rfl ?_
        refine J_cVb (As := [.int 11, .int 0, .int 0]) (st := []) (rc2 := (rmK (38 - 4 * d)).cells) (rs2 := (rmK (38 - 4 * d)).slots) C iX3_sum_73 lm_X3_195 yc_X0_addStep yv_X0_addStep (c_X0_addStep (m := s30) (by omega)) (q0 := 0) rfl rfl rfl [] ((wPa Z p kk b (nI i30) (sf i30) (nw tk i30 b30) b30 e30 a30 y0 y1 y2 y3 y4 y5 ++ wTk Z kk t (nI (Lt + 1)) kf sf vf) ++ wTp Z t (nI tm) tb) rfl rfl (rmK_le (by omega) (by decide)) (Nat.le_of_ble_eq_true rfl) rfl rfl ?_
        rintro _ _ ⟨rfl, rfl⟩
        refine J_st ([]) rfl ?_
        refine J_ws (((wBk Z b L (nI m) lc (nI (inc s30 400)) nm bP bH (updC o30 s30 400 11) (updC g30 s30 400 0) (updC j30 s30 400 0) l0 l1 l2 l3 l4 l5 ++ wPa Z p kk b (nI i30) (sf i30) (nw tk i30 b30) b30 e30 a30 y0 y1 y2 y3 y4 y5) ++ wTk Z kk t (nI (Lt + 1)) kf sf vf) ++ wTp Z t (nI tm) tb) rfl ?_
        have hic31 := inc_le (s := s30) (by omega)
        refine J_iinc ((nI k) + 1) [(2, .int ((nI k) + 1)), (3, .int 11), (1, .int (nI d)), (0, .ref (p 0))] C iX3_sum_76 rfl rfl (by decide) rfl ?_
        rw [show (nI k) + 1 = nI (k + 1) from nI_add _ _]
        refine J_goto 7 C iX3_sum_79 rfl ?_
        refine J_lvm [(2, .int (nI (k + 1))), (1, .int (nI d)), (0, .ref (p 0))] rfl ?_
        exact ih (i30, b30, e30, a30, (inc s30 400), updC o30 s30 400 11, updC g30 s30 400 0, updC j30 s30 400 0) ⟨by rw [← hI, show 400 - k = 400 - (k + 1) + 1 by omega, loopC]; rw [if_neg (show ¬ nowC tk (i25, b25, e25, a25, s25, o25, g25, j25) = 30 from hs21), if_pos (show nowC tk (i25, b25, e25, a25, s25, o25, g25, j25) = 31 from hs31), show nowC tk (i25, b25, e25, a25, s25, o25, g25, j25) = nw tk i25 b25 from rfl, hR29, hR30]; first | done | rfl, by omega, by omega⟩
      · refine J_acmpne 82 C iX3_sum_31 rfl (fun h31 => ?_) (fun h31 => absurd h31 (fun e => hs31 (zad_inj C (nw_lt htk _ _) (by decide) e)))
        exact J_vret C E iX3_sum_82 ⟨i25, b25, e25, a25, s25, o25, g25, j25, by rw [sumC, hR24, ← hI, show 400 - k = 400 - (k + 1) + 1 by omega, loopC]; rw [if_neg (show ¬ nowC tk (i25, b25, e25, a25, s25, o25, g25, j25) = 30 from hs21), if_neg (show ¬ nowC tk (i25, b25, e25, a25, s25, o25, g25, j25) = 31 from hs31)], by omega, by omega, rfl, rfl⟩

set_option maxRecDepth 100000 in
set_option maxHeartbeats 4000000 in
theorem c_X3_choice {Z : GZ} {l : Launch} {p kk t b L : Nat → Nat} {m Lt tm : Nat} {lc : Int32} {tb : Nat → Int32} {nm : Nat → Int64} {bP bH l0 l1 l2 l3 l4 l5 : Nat → Int32} {kf : Nat → Option Nat} {sf : Nat → Int32} {vf : Nat → Int64} {y0 y1 y2 y3 y4 y5 : Int32} {tk : Nat → Nat} {d : Nat} {vv : PS → PS} (hLt : Lt ≤ 400) (hkf : ∀ i, i ≤ Lt → kf i = some (zad Z (tk i))) (htk : ∀ i, tk i < 43) (hend : ∀ i, i ≤ Lt → tk i ≠ 41 → tk i ≠ 42 → i < Lt) (hm : m ≤ 12) (hd : d ≤ 8) (hv : d < 8 → ∀ {i s : Nat} {b0 : Bool} {e a : Int32} {o g j : Nat → Int32}, i ≤ Lt → s ≤ 400 → Ct Z l yX3_sum cX3_sum 4 none (rmK (34 - 4 * d)) [.ref (p 0), .int (nI (d + 1))] (((wBk Z b L (nI m) lc (nI s) nm bP bH o g j l0 l1 l2 l3 l4 l5 ++ wPa Z p kk b (nI i) (sf i) (nw tk i b0) b0 e a y0 y1 y2 y3 y4 y5) ++ wTk Z kk t (nI (Lt + 1)) kf sf vf) ++ wTp Z t (nI tm) tb) (fun v w => ∃ i2 b2 e2 a2 s2 o2 g2 j2, sumC tk sf vv (i, b0, e, a, s, o, g, j) = (i2, b2, e2, a2, s2, o2, g2, j2) ∧ i2 ≤ Lt ∧ s2 ≤ 400 ∧ v = none ∧ w = (((wBk Z b L (nI m) lc (nI s2) nm bP bH o2 g2 j2 l0 l1 l2 l3 l4 l5 ++ wPa Z p kk b (nI i2) (sf i2) (nw tk i2 b2) b2 e2 a2 y0 y1 y2 y3 y4 y5) ++ wTk Z kk t (nI (Lt + 1)) kf sf vf) ++ wTp Z t (nI tm) tb))) {i s : Nat} {b0 : Bool} {e a : Int32} {o g j : Nat → Int32} (hi : i ≤ Lt) (hs : s ≤ 400) (hc : nw tk i b0 = 22 ∨ nw tk i b0 = 23)  : Ct Z l yX3_choice cX3_choice 3 none (rmK (35 - 4 * d)) [.ref (p 0), .int (nI d)] (((wBk Z b L (nI m) lc (nI s) nm bP bH o g j l0 l1 l2 l3 l4 l5 ++ wPa Z p kk b (nI i) (sf i) (nw tk i b0) b0 e a y0 y1 y2 y3 y4 y5) ++ wTk Z kk t (nI (Lt + 1)) kf sf vf) ++ wTp Z t (nI tm) tb) (fun v w => ∃ i2 b2 e2 a2 s2 o2 g2 j2, choC tk sf d vv (i, b0, e, a, s, o, g, j) = (i2, b2, e2, a2, s2, o2, g2, j2) ∧ i2 ≤ Lt ∧ s2 ≤ 400 ∧ v = none ∧ w = (((wBk Z b L (nI m) lc (nI s2) nm bP bH o2 g2 j2 l0 l1 l2 l3 l4 l5 ++ wPa Z p kk b (nI i2) (sf i2) (nw tk i2 b2) b2 e2 a2 y0 y1 y2 y3 y4 y5) ++ wTk Z kk t (nI (Lt + 1)) kf sf vf) ++ wTp Z t (nI tm) tb)) := by
  refine Ct.ofJ (own := RX3) (nm := "choice") (lv0 := [(0, .ref (p 0)), (1, .int (nI d))]) (by decide) rfl rfl (Nat.le_of_ble_eq_true rfl) rfl (fun X hXl C E => ?_)
  subst hXl
  refine J_aload_n C iX3_choice_0 rfl rfl ?_
  refine J_get (.ref (zad Z (nw tk i b0))) 24 C iX3_choice_1 gf_X3_24 rfl rfl ?_
  refine J_getsK C iX3_choice_4 kf_X3_288 ?_
  by_cases hs7 : (nw tk i b0) = 22
  · refine J_acmpne 15 C iX3_choice_7 rfl (fun h7 => absurd (congrArg (zad Z) hs7) h7) (fun h7 => ?_)
    refine J_bipush 14 C iX3_choice_10 rfl ?_
    refine J_goto 17 C iX3_choice_12 rfl ?_
    refine J_istore_n [(2, .int 14), (0, .ref (p 0)), (1, .int (nI d))] C iX3_choice_17 rfl (by decide) rfl ?_
    refine J_aload_n C iX3_choice_18 rfl rfl ?_
    refine J_aload_n C iX3_choice_19 rfl rfl ?_
    refine J_get (.ref (zad Z (nw tk i b0))) 24 C iX3_choice_20 gf_X3_24 rfl rfl ?_
    refine J_cV (As := [.ref (zad Z (nw tk i b0))]) (st := []) (rc2 := (rmK (35 - 4 * d)).cells) (rs2 := (rmK (35 - 4 * d)).slots) C iX3_choice_23 lm_X3_85 yc_X3_take yv_X3_take (c_X3_take (k := nw tk i b0) hLt hkf htk hend (by omega) (by omega) hm (nw_lt htk _ _) (by rw [hs7]; decide) (by rw [hs7]; decide)) (q0 := 24) rfl rfl rfl rfl (rmK_le (by omega) (by decide)) (Nat.le_of_ble_eq_true rfl) rfl rfl ?_
    rintro _ _ ⟨i32, b32, e32, a32, s32, o32, g32, j32, hR32, hli32, hls32, rfl, rfl⟩
    refine J_st (.long (valT tk vf (nw tk i b0) (i, b0, e, a, s, o, g, j)) :: []) rfl ?_
    refine J_pop2 C iX3_choice_26 rfl ?_
    refine J_aload_n C iX3_choice_27 rfl rfl ?_
    refine J_getsK C iX3_choice_28 kf_X3_282 ?_
    refine J_iload_n C iX3_choice_31 rfl rfl ?_
    refine J_cV (As := [.ref (zad Z 24), .int (nI d)]) (st := []) (rc2 := (rmK (35 - 4 * d)).cells) (rs2 := (rmK (35 - 4 * d)).slots) C iX3_choice_32 lm_X3_208 yc_X3_goesDeeper yv_X3_goesDeeper (c_X3_goesDeeper (k := 24) (d := d) hLt hkf htk hend (by omega) (by omega) hm (by decide) (by decide) (by decide) (by omega)) (q0 := 24) rfl rfl rfl rfl (rmK_le (by omega) (by decide)) (Nat.le_of_ble_eq_true rfl) rfl rfl ?_
    rintro _ _ ⟨i33, b33, e33, a33, s33, o33, g33, j33, hR33, hli33, hls33, rfl, rfl⟩
    refine J_st (.int (b2i (!b33)) :: []) rfl ?_
    cases b33
    · refine J_ifeqb 78 C iX3_choice_35 rfl (fun h35 => absurd (h35.symm.trans rfl) (by decide)) (fun h35 => ?_)
      refine J_aload_n C iX3_choice_38 rfl rfl ?_
      refine J_iload_n C iX3_choice_39 rfl rfl ?_
      refine J_iconst 1 C iX3_choice_40 rfl ?_
      refine J_iadd C iX3_choice_41 ?_
      rw [show (nI d) + 1 = nI (d + 1) from nI_add _ _]
      refine J_cV (As := [.int (nI (d + 1))]) (st := []) (rc2 := (rmK (35 - 4 * d)).cells) (rs2 := (rmK (35 - 4 * d)).slots) C iX3_choice_42 lm_X3_174 yc_X3_sum yv_X3_sum (hv (deep_lt hR33) (by omega) (by omega)) (q0 := 24) rfl rfl rfl rfl (rmK_le (by omega) (by decide)) (Nat.le_of_ble_eq_true rfl) rfl rfl ?_
      rintro _ _ ⟨i34, b34, e34, a34, s34, o34, g34, j34, hR34, hli34, hls34, rfl, rfl⟩
      refine J_st ([]) rfl ?_
      refine J_aload_n C iX3_choice_45 rfl rfl ?_
      refine J_getsK C iX3_choice_46 kf_X3_297 ?_
      refine J_cV (As := [.ref (zad Z 29)]) (st := []) (rc2 := (rmK (35 - 4 * d)).cells) (rs2 := (rmK (35 - 4 * d)).slots) C iX3_choice_49 lm_X3_85 yc_X3_take yv_X3_take (c_X3_take (k := 29) hLt hkf htk hend (by omega) (by omega) hm (by decide) (by decide) (by decide)) (q0 := 24) rfl rfl rfl rfl (rmK_le (by omega) (by decide)) (Nat.le_of_ble_eq_true rfl) rfl rfl ?_
      rintro _ _ ⟨i35, b35, e35, a35, s35, o35, g35, j35, hR35, hli35, hls35, rfl, rfl⟩
      refine J_st (.long (valT tk vf 29 (i34, b34, e34, a34, s34, o34, g34, j34)) :: []) rfl ?_
      refine J_pop2 C iX3_choice_52 rfl ?_
      refine J_aload_n C iX3_choice_53 rfl rfl ?_
      refine J_iload_n C iX3_choice_54 rfl rfl ?_
      refine J_iconst 1 C iX3_choice_55 rfl ?_
      refine J_iadd C iX3_choice_56 ?_
      rw [show (nI d) + 1 = nI (d + 1) from nI_add _ _]
      refine J_cV (As := [.int (nI (d + 1))]) (st := []) (rc2 := (rmK (35 - 4 * d)).cells) (rs2 := (rmK (35 - 4 * d)).slots) C iX3_choice_57 lm_X3_174 yc_X3_sum yv_X3_sum (hv (deep_lt hR33) (by omega) (by omega)) (q0 := 24) rfl rfl rfl rfl (rmK_le (by omega) (by decide)) (Nat.le_of_ble_eq_true rfl) rfl rfl ?_
      rintro _ _ ⟨i36, b36, e36, a36, s36, o36, g36, j36, hR36, hli36, hls36, rfl, rfl⟩
      refine J_st ([]) rfl ?_
      refine J_aload_n C iX3_choice_60 rfl rfl ?_
      refine J_getsK C iX3_choice_61 kf_X3_285 ?_
      refine J_cV (As := [.ref (zad Z 25)]) (st := []) (rc2 := (rmK (35 - 4 * d)).cells) (rs2 := (rmK (35 - 4 * d)).slots) C iX3_choice_64 lm_X3_85 yc_X3_take yv_X3_take (c_X3_take (k := 25) hLt hkf htk hend (by omega) (by omega) hm (by decide) (by decide) (by decide)) (q0 := 24) rfl rfl rfl rfl (rmK_le (by omega) (by decide)) (Nat.le_of_ble_eq_true rfl) rfl rfl ?_
      rintro _ _ ⟨i37, b37, e37, a37, s37, o37, g37, j37, hR37, hli37, hls37, rfl, rfl⟩
      refine J_st (.long (valT tk vf 25 (i36, b36, e36, a36, s36, o36, g36, j36)) :: []) rfl ?_
      refine J_pop2 C iX3_choice_67 rfl ?_
      refine J_aload_n C iX3_choice_68 rfl rfl ?_
      refine J_get (.ref (b 0)) 24 C iX3_choice_69 gf_X3_31 rfl rfl ?_
      refine J_iload_n C iX3_choice_72 rfl rfl ?_
      refine J_iconst 0 C iX3_choice_73 rfl ?_
      refine J_iconst 0 C iX3_choice_74 rfl ?_
      refine J_cVb (As := [.int 14, .int 0, .int 0]) (st := []) (rc2 := (rmK (35 - 4 * d)).cells) (rs2 := (rmK (35 - 4 * d)).slots) C iX3_choice_75 lm_X3_195 yc_X0_addStep yv_X0_addStep (c_X0_addStep (m := s37) (by omega)) (q0 := 0) rfl rfl rfl [] ((wPa Z p kk b (nI i37) (sf i37) (nw tk i37 b37) b37 e37 a37 y0 y1 y2 y3 y4 y5 ++ wTk Z kk t (nI (Lt + 1)) kf sf vf) ++ wTp Z t (nI tm) tb) rfl rfl (rmK_le (by omega) (by decide)) (Nat.le_of_ble_eq_true rfl) rfl rfl ?_
      rintro _ _ ⟨rfl, rfl⟩
      refine J_st ([]) rfl ?_
      refine J_ws (((wBk Z b L (nI m) lc (nI (inc s37 400)) nm bP bH (updC o37 s37 400 14) (updC g37 s37 400 0) (updC j37 s37 400 0) l0 l1 l2 l3 l4 l5 ++ wPa Z p kk b (nI i37) (sf i37) (nw tk i37 b37) b37 e37 a37 y0 y1 y2 y3 y4 y5) ++ wTk Z kk t (nI (Lt + 1)) kf sf vf) ++ wTp Z t (nI tm) tb) rfl ?_
      have hic38 := inc_le (s := s37) (by omega)
      exact J_vret C E iX3_choice_78 ⟨i37, b37, e37, a37, (inc s37 400), updC o37 s37 400 14, updC g37 s37 400 0, updC j37 s37 400 0, by rw [choC, show nowC tk (i, b0, e, a, s, o, g, j) = nw tk i b0 from rfl, hR32, hR33, if_neg (show ¬ brkC (i33, false, e33, a33, s33, o33, g33, j33) = true from Bool.false_ne_true), hR34, hR35, hR36, hR37]; rw [if_pos hs7]; first | done | rfl, by omega, by omega, rfl, rfl⟩
    · refine J_ifeqb 78 C iX3_choice_35 rfl (fun h35 => ?_) (fun h35 => absurd (h35.symm.trans rfl) (by decide))
      exact J_vret C E iX3_choice_78 ⟨i33, true, e33, a33, s33, o33, g33, j33, by rw [choC, show nowC tk (i, b0, e, a, s, o, g, j) = nw tk i b0 from rfl, hR32, hR33, if_pos (show brkC (i33, true, e33, a33, s33, o33, g33, j33) = true from rfl)]; first | done | rfl, by omega, by omega, rfl, rfl⟩
  · refine J_acmpne 15 C iX3_choice_7 rfl (fun h7 => ?_) (fun h7 => absurd h7 (fun e => hs7 (zad_inj C (nw_lt htk _ _) (by decide) e)))
    refine J_bipush 15 C iX3_choice_15 rfl ?_
    refine J_istore_n [(2, .int 15), (0, .ref (p 0)), (1, .int (nI d))] C iX3_choice_17 rfl (by decide) rfl ?_
    refine J_aload_n C iX3_choice_18 rfl rfl ?_
    refine J_aload_n C iX3_choice_19 rfl rfl ?_
    refine J_get (.ref (zad Z (nw tk i b0))) 24 C iX3_choice_20 gf_X3_24 rfl rfl ?_
    refine J_cV (As := [.ref (zad Z (nw tk i b0))]) (st := []) (rc2 := (rmK (35 - 4 * d)).cells) (rs2 := (rmK (35 - 4 * d)).slots) C iX3_choice_23 lm_X3_85 yc_X3_take yv_X3_take (c_X3_take (k := nw tk i b0) hLt hkf htk hend (by omega) (by omega) hm (nw_lt htk _ _) (by rcases hc with h9 | h9 <;> rw [h9] <;> decide) (by rcases hc with h9 | h9 <;> rw [h9] <;> decide)) (q0 := 24) rfl rfl rfl rfl (rmK_le (by omega) (by decide)) (Nat.le_of_ble_eq_true rfl) rfl rfl ?_
    rintro _ _ ⟨i39, b39, e39, a39, s39, o39, g39, j39, hR39, hli39, hls39, rfl, rfl⟩
    refine J_st (.long (valT tk vf (nw tk i b0) (i, b0, e, a, s, o, g, j)) :: []) rfl ?_
    refine J_pop2 C iX3_choice_26 rfl ?_
    refine J_aload_n C iX3_choice_27 rfl rfl ?_
    refine J_getsK C iX3_choice_28 kf_X3_282 ?_
    refine J_iload_n C iX3_choice_31 rfl rfl ?_
    refine J_cV (As := [.ref (zad Z 24), .int (nI d)]) (st := []) (rc2 := (rmK (35 - 4 * d)).cells) (rs2 := (rmK (35 - 4 * d)).slots) C iX3_choice_32 lm_X3_208 yc_X3_goesDeeper yv_X3_goesDeeper (c_X3_goesDeeper (k := 24) (d := d) hLt hkf htk hend (by omega) (by omega) hm (by decide) (by decide) (by decide) (by omega)) (q0 := 24) rfl rfl rfl rfl (rmK_le (by omega) (by decide)) (Nat.le_of_ble_eq_true rfl) rfl rfl ?_
    rintro _ _ ⟨i40, b40, e40, a40, s40, o40, g40, j40, hR40, hli40, hls40, rfl, rfl⟩
    refine J_st (.int (b2i (!b40)) :: []) rfl ?_
    cases b40
    · refine J_ifeqb 78 C iX3_choice_35 rfl (fun h35 => absurd (h35.symm.trans rfl) (by decide)) (fun h35 => ?_)
      refine J_aload_n C iX3_choice_38 rfl rfl ?_
      refine J_iload_n C iX3_choice_39 rfl rfl ?_
      refine J_iconst 1 C iX3_choice_40 rfl ?_
      refine J_iadd C iX3_choice_41 ?_
      rw [show (nI d) + 1 = nI (d + 1) from nI_add _ _]
      refine J_cV (As := [.int (nI (d + 1))]) (st := []) (rc2 := (rmK (35 - 4 * d)).cells) (rs2 := (rmK (35 - 4 * d)).slots) C iX3_choice_42 lm_X3_174 yc_X3_sum yv_X3_sum (hv (deep_lt hR40) (by omega) (by omega)) (q0 := 24) rfl rfl rfl rfl (rmK_le (by omega) (by decide)) (Nat.le_of_ble_eq_true rfl) rfl rfl ?_
      rintro _ _ ⟨i41, b41, e41, a41, s41, o41, g41, j41, hR41, hli41, hls41, rfl, rfl⟩
      refine J_st ([]) rfl ?_
      refine J_aload_n C iX3_choice_45 rfl rfl ?_
      refine J_getsK C iX3_choice_46 kf_X3_297 ?_
      refine J_cV (As := [.ref (zad Z 29)]) (st := []) (rc2 := (rmK (35 - 4 * d)).cells) (rs2 := (rmK (35 - 4 * d)).slots) C iX3_choice_49 lm_X3_85 yc_X3_take yv_X3_take (c_X3_take (k := 29) hLt hkf htk hend (by omega) (by omega) hm (by decide) (by decide) (by decide)) (q0 := 24) rfl rfl rfl rfl (rmK_le (by omega) (by decide)) (Nat.le_of_ble_eq_true rfl) rfl rfl ?_
      rintro _ _ ⟨i42, b42, e42, a42, s42, o42, g42, j42, hR42, hli42, hls42, rfl, rfl⟩
      refine J_st (.long (valT tk vf 29 (i41, b41, e41, a41, s41, o41, g41, j41)) :: []) rfl ?_
      refine J_pop2 C iX3_choice_52 rfl ?_
      refine J_aload_n C iX3_choice_53 rfl rfl ?_
      refine J_iload_n C iX3_choice_54 rfl rfl ?_
      refine J_iconst 1 C iX3_choice_55 rfl ?_
      refine J_iadd C iX3_choice_56 ?_
      rw [show (nI d) + 1 = nI (d + 1) from nI_add _ _]
      refine J_cV (As := [.int (nI (d + 1))]) (st := []) (rc2 := (rmK (35 - 4 * d)).cells) (rs2 := (rmK (35 - 4 * d)).slots) C iX3_choice_57 lm_X3_174 yc_X3_sum yv_X3_sum (hv (deep_lt hR40) (by omega) (by omega)) (q0 := 24) rfl rfl rfl rfl (rmK_le (by omega) (by decide)) (Nat.le_of_ble_eq_true rfl) rfl rfl ?_
      rintro _ _ ⟨i43, b43, e43, a43, s43, o43, g43, j43, hR43, hli43, hls43, rfl, rfl⟩
      refine J_st ([]) rfl ?_
      refine J_aload_n C iX3_choice_60 rfl rfl ?_
      refine J_getsK C iX3_choice_61 kf_X3_285 ?_
      refine J_cV (As := [.ref (zad Z 25)]) (st := []) (rc2 := (rmK (35 - 4 * d)).cells) (rs2 := (rmK (35 - 4 * d)).slots) C iX3_choice_64 lm_X3_85 yc_X3_take yv_X3_take (c_X3_take (k := 25) hLt hkf htk hend (by omega) (by omega) hm (by decide) (by decide) (by decide)) (q0 := 24) rfl rfl rfl rfl (rmK_le (by omega) (by decide)) (Nat.le_of_ble_eq_true rfl) rfl rfl ?_
      rintro _ _ ⟨i44, b44, e44, a44, s44, o44, g44, j44, hR44, hli44, hls44, rfl, rfl⟩
      refine J_st (.long (valT tk vf 25 (i43, b43, e43, a43, s43, o43, g43, j43)) :: []) rfl ?_
      refine J_pop2 C iX3_choice_67 rfl ?_
      refine J_aload_n C iX3_choice_68 rfl rfl ?_
      refine J_get (.ref (b 0)) 24 C iX3_choice_69 gf_X3_31 rfl rfl ?_
      refine J_iload_n C iX3_choice_72 rfl rfl ?_
      refine J_iconst 0 C iX3_choice_73 rfl ?_
      refine J_iconst 0 C iX3_choice_74 rfl ?_
      refine J_cVb (As := [.int 15, .int 0, .int 0]) (st := []) (rc2 := (rmK (35 - 4 * d)).cells) (rs2 := (rmK (35 - 4 * d)).slots) C iX3_choice_75 lm_X3_195 yc_X0_addStep yv_X0_addStep (c_X0_addStep (m := s44) (by omega)) (q0 := 0) rfl rfl rfl [] ((wPa Z p kk b (nI i44) (sf i44) (nw tk i44 b44) b44 e44 a44 y0 y1 y2 y3 y4 y5 ++ wTk Z kk t (nI (Lt + 1)) kf sf vf) ++ wTp Z t (nI tm) tb) rfl rfl (rmK_le (by omega) (by decide)) (Nat.le_of_ble_eq_true rfl) rfl rfl ?_
      rintro _ _ ⟨rfl, rfl⟩
      refine J_st ([]) rfl ?_
      refine J_ws (((wBk Z b L (nI m) lc (nI (inc s44 400)) nm bP bH (updC o44 s44 400 15) (updC g44 s44 400 0) (updC j44 s44 400 0) l0 l1 l2 l3 l4 l5 ++ wPa Z p kk b (nI i44) (sf i44) (nw tk i44 b44) b44 e44 a44 y0 y1 y2 y3 y4 y5) ++ wTk Z kk t (nI (Lt + 1)) kf sf vf) ++ wTp Z t (nI tm) tb) rfl ?_
      have hic45 := inc_le (s := s44) (by omega)
      exact J_vret C E iX3_choice_78 ⟨i44, b44, e44, a44, (inc s44 400), updC o44 s44 400 15, updC g44 s44 400 0, updC j44 s44 400 0, by rw [choC, show nowC tk (i, b0, e, a, s, o, g, j) = nw tk i b0 from rfl, hR39, hR40, if_neg (show ¬ brkC (i40, false, e40, a40, s40, o40, g40, j40) = true from Bool.false_ne_true), hR41, hR42, hR43, hR44]; rw [if_neg hs7]; first | done | rfl, by omega, by omega, rfl, rfl⟩
    · refine J_ifeqb 78 C iX3_choice_35 rfl (fun h35 => ?_) (fun h35 => absurd (h35.symm.trans rfl) (by decide))
      exact J_vret C E iX3_choice_78 ⟨i40, true, e40, a40, s40, o40, g40, j40, by rw [choC, show nowC tk (i, b0, e, a, s, o, g, j) = nw tk i b0 from rfl, hR39, hR40, if_pos (show brkC (i40, true, e40, a40, s40, o40, g40, j40) = true from rfl)]; first | done | rfl, by omega, by omega, rfl, rfl⟩

set_option maxRecDepth 100000 in
set_option maxHeartbeats 4000000 in
theorem c_X3_value {Z : GZ} {l : Launch} {p kk t b L : Nat → Nat} {m Lt tm : Nat} {lc : Int32} {tb : Nat → Int32} {nm : Nat → Int64} {bP bH l0 l1 l2 l3 l4 l5 : Nat → Int32} {kf : Nat → Option Nat} {sf : Nat → Int32} {vf : Nat → Int64} {y0 y1 y2 y3 y4 y5 : Int32} {tk : Nat → Nat} {d : Nat} {vv : PS → PS} (hLt : Lt ≤ 400) (hkf : ∀ i, i ≤ Lt → kf i = some (zad Z (tk i))) (htk : ∀ i, tk i < 43) (hend : ∀ i, i ≤ Lt → tk i ≠ 41 → tk i ≠ 42 → i < Lt) (hm : m ≤ 12) (hd : d ≤ 8) (hv : d < 8 → ∀ {i s : Nat} {b0 : Bool} {e a : Int32} {o g j : Nat → Int32}, i ≤ Lt → s ≤ 400 → Ct Z l yX3_value cX3_value 3 none (rmK (32 - 4 * d)) [.ref (p 0), .int (nI (d + 1))] (((wBk Z b L (nI m) lc (nI s) nm bP bH o g j l0 l1 l2 l3 l4 l5 ++ wPa Z p kk b (nI i) (sf i) (nw tk i b0) b0 e a y0 y1 y2 y3 y4 y5) ++ wTk Z kk t (nI (Lt + 1)) kf sf vf) ++ wTp Z t (nI tm) tb) (fun v w => ∃ i2 b2 e2 a2 s2 o2 g2 j2, vv (i, b0, e, a, s, o, g, j) = (i2, b2, e2, a2, s2, o2, g2, j2) ∧ i2 ≤ Lt ∧ s2 ≤ 400 ∧ v = none ∧ w = (((wBk Z b L (nI m) lc (nI s2) nm bP bH o2 g2 j2 l0 l1 l2 l3 l4 l5 ++ wPa Z p kk b (nI i2) (sf i2) (nw tk i2 b2) b2 e2 a2 y0 y1 y2 y3 y4 y5) ++ wTk Z kk t (nI (Lt + 1)) kf sf vf) ++ wTp Z t (nI tm) tb))) (hsum : d < 8 → ∀ {i s : Nat} {b0 : Bool} {e a : Int32} {o g j : Nat → Int32}, i ≤ Lt → s ≤ 400 → Ct Z l yX3_sum cX3_sum 4 none (rmK (34 - 4 * d)) [.ref (p 0), .int (nI (d + 1))] (((wBk Z b L (nI m) lc (nI s) nm bP bH o g j l0 l1 l2 l3 l4 l5 ++ wPa Z p kk b (nI i) (sf i) (nw tk i b0) b0 e a y0 y1 y2 y3 y4 y5) ++ wTk Z kk t (nI (Lt + 1)) kf sf vf) ++ wTp Z t (nI tm) tb) (fun v w => ∃ i2 b2 e2 a2 s2 o2 g2 j2, sumC tk sf vv (i, b0, e, a, s, o, g, j) = (i2, b2, e2, a2, s2, o2, g2, j2) ∧ i2 ≤ Lt ∧ s2 ≤ 400 ∧ v = none ∧ w = (((wBk Z b L (nI m) lc (nI s2) nm bP bH o2 g2 j2 l0 l1 l2 l3 l4 l5 ++ wPa Z p kk b (nI i2) (sf i2) (nw tk i2 b2) b2 e2 a2 y0 y1 y2 y3 y4 y5) ++ wTk Z kk t (nI (Lt + 1)) kf sf vf) ++ wTp Z t (nI tm) tb))) {i s : Nat} {b0 : Bool} {e a : Int32} {o g j : Nat → Int32} (hi : i ≤ Lt) (hs : s ≤ 400)  : Ct Z l yX3_value cX3_value 3 none (rmK (36 - 4 * d)) [.ref (p 0), .int (nI d)] (((wBk Z b L (nI m) lc (nI s) nm bP bH o g j l0 l1 l2 l3 l4 l5 ++ wPa Z p kk b (nI i) (sf i) (nw tk i b0) b0 e a y0 y1 y2 y3 y4 y5) ++ wTk Z kk t (nI (Lt + 1)) kf sf vf) ++ wTp Z t (nI tm) tb) (fun v w => ∃ i2 b2 e2 a2 s2 o2 g2 j2, valB tk sf vf nm m d vv (i, b0, e, a, s, o, g, j) = (i2, b2, e2, a2, s2, o2, g2, j2) ∧ i2 ≤ Lt ∧ s2 ≤ 400 ∧ v = none ∧ w = (((wBk Z b L (nI m) lc (nI s2) nm bP bH o2 g2 j2 l0 l1 l2 l3 l4 l5 ++ wPa Z p kk b (nI i2) (sf i2) (nw tk i2 b2) b2 e2 a2 y0 y1 y2 y3 y4 y5) ++ wTk Z kk t (nI (Lt + 1)) kf sf vf) ++ wTp Z t (nI tm) tb)) := by
  refine Ct.ofJ (own := RX3) (nm := "value") (lv0 := [(0, .ref (p 0)), (1, .int (nI d))]) (by decide) rfl rfl (Nat.le_of_ble_eq_true rfl) rfl (fun X hXl C E => ?_)
  subst hXl
  refine J_aload_n C iX3_value_0 rfl rfl ?_
  refine J_get (.ref (zad Z (nw tk i b0))) 24 C iX3_value_1 gf_X3_24 rfl rfl ?_
  refine J_getsK C iX3_value_4 kf_X3_106 ?_
  by_cases hs7 : (nw tk i b0) = 40
  · refine J_acmpne 30 C iX3_value_7 rfl (fun h7 => absurd (congrArg (zad Z) hs7) h7) (fun h7 => ?_)
    refine J_aload_n C iX3_value_10 rfl rfl ?_
    refine J_get (.ref (b 0)) 24 C iX3_value_11 gf_X3_31 rfl rfl ?_
    refine J_iconst 0 C iX3_value_14 rfl ?_
    refine J_aload_n C iX3_value_15 rfl rfl ?_
    refine J_getsK C iX3_value_16 kf_X3_106 ?_
    refine J_cV (As := [.ref (zad Z 40)]) (st := .int 0 :: .ref (b 0) :: []) (rc2 := (rmK (36 - 4 * d)).cells) (rs2 := (rmK (36 - 4 * d)).slots) C iX3_value_19 lm_X3_85 yc_X3_take yv_X3_take (c_X3_take (k := 40) hLt hkf htk hend (by omega) (by omega) hm (by decide) (by decide) (by decide)) (q0 := 24) rfl rfl rfl rfl (rmK_le (by omega) (by decide)) (Nat.le_of_ble_eq_true rfl) rfl rfl ?_
    rintro _ _ ⟨i46, b46, e46, a46, s46, o46, g46, j46, hR46, hli46, hls46, rfl, rfl⟩
    refine J_st (.long (valT tk vf 40 (i, b0, e, a, s, o, g, j)) :: .int 0 :: .ref (b 0) :: []) rfl ?_
    refine J_l2i C iX3_value_22 ?_
    refine J_iconst 0 C iX3_value_23 rfl ?_
    refine J_cVb (As := [.int 0, .int ((valT tk vf 40 (i, b0, e, a, s, o, g, j)).toInt32), .int 0]) (st := []) (rc2 := (rmK (36 - 4 * d)).cells) (rs2 := (rmK (36 - 4 * d)).slots) C iX3_value_24 lm_X3_195 yc_X0_addStep yv_X0_addStep (c_X0_addStep (m := s46) (by omega)) (q0 := 0) rfl rfl rfl [] ((wPa Z p kk b (nI i46) (sf i46) (nw tk i46 b46) b46 e46 a46 y0 y1 y2 y3 y4 y5 ++ wTk Z kk t (nI (Lt + 1)) kf sf vf) ++ wTp Z t (nI tm) tb) rfl rfl (rmK_le (by omega) (by decide)) (Nat.le_of_ble_eq_true rfl) rfl rfl ?_
    rintro _ _ ⟨rfl, rfl⟩
    refine J_st ([]) rfl ?_
    refine J_ws (((wBk Z b L (nI m) lc (nI (inc s46 400)) nm bP bH (updC o46 s46 400 0) (updC g46 s46 400 ((valT tk vf 40 (i, b0, e, a, s, o, g, j)).toInt32)) (updC j46 s46 400 0) l0 l1 l2 l3 l4 l5 ++ wPa Z p kk b (nI i46) (sf i46) (nw tk i46 b46) b46 e46 a46 y0 y1 y2 y3 y4 y5) ++ wTk Z kk t (nI (Lt + 1)) kf sf vf) ++ wTp Z t (nI tm) tb) rfl ?_
    have hic47 := inc_le (s := s46) (by omega)
    refine J_goto 298 C iX3_value_27 rfl ?_
    exact J_vret C E iX3_value_298 ⟨i46, b46, e46, a46, (inc s46 400), updC o46 s46 400 0, updC g46 s46 400 ((valT tk vf 40 (i, b0, e, a, s, o, g, j)).toInt32), updC j46 s46 400 0, by rw [valB, if_pos (show nowC tk (i, b0, e, a, s, o, g, j) = 40 from hs7)]; rw [hR46]; first | done | rfl, by omega, by omega, rfl, rfl⟩
  · refine J_acmpne 30 C iX3_value_7 rfl (fun h7 => ?_) (fun h7 => absurd h7 (fun e => hs7 (zad_inj C (nw_lt htk _ _) (by decide) e)))
    refine J_aload_n C iX3_value_30 rfl rfl ?_
    refine J_get (.ref (zad Z (nw tk i b0))) 24 C iX3_value_31 gf_X3_24 rfl rfl ?_
    refine J_getsK C iX3_value_34 kf_X3_264 ?_
    by_cases hs37 : (nw tk i b0) = 11
    · refine J_acmpne 61 C iX3_value_37 rfl (fun h37 => absurd (congrArg (zad Z) hs37) h37) (fun h37 => ?_)
      refine J_aload_n C iX3_value_40 rfl rfl ?_
      refine J_getsK C iX3_value_41 kf_X3_264 ?_
      refine J_cV (As := [.ref (zad Z 11)]) (st := []) (rc2 := (rmK (36 - 4 * d)).cells) (rs2 := (rmK (36 - 4 * d)).slots) C iX3_value_44 lm_X3_85 yc_X3_take yv_X3_take (c_X3_take (k := 11) hLt hkf htk hend (by omega) (by omega) hm (by decide) (by decide) (by decide)) (q0 := 24) rfl rfl rfl rfl (rmK_le (by omega) (by decide)) (Nat.le_of_ble_eq_true rfl) rfl rfl ?_
      rintro _ _ ⟨i48, b48, e48, a48, s48, o48, g48, j48, hR48, hli48, hls48, rfl, rfl⟩
      refine J_st (.long (valT tk vf 11 (i, b0, e, a, s, o, g, j)) :: []) rfl ?_
      refine J_pop2 C iX3_value_47 rfl ?_
      refine J_aload_n C iX3_value_48 rfl rfl ?_
      refine J_get (.ref (b 0)) 24 C iX3_value_49 gf_X3_31 rfl rfl ?_
      refine J_iconst 1 C iX3_value_52 rfl ?_
      refine J_iconst 0 C iX3_value_53 rfl ?_
      refine J_iconst 0 C iX3_value_54 rfl ?_
      refine J_cVb (As := [.int 1, .int 0, .int 0]) (st := []) (rc2 := (rmK (36 - 4 * d)).cells) (rs2 := (rmK (36 - 4 * d)).slots) C iX3_value_55 lm_X3_195 yc_X0_addStep yv_X0_addStep (c_X0_addStep (m := s48) (by omega)) (q0 := 0) rfl rfl rfl [] ((wPa Z p kk b (nI i48) (sf i48) (nw tk i48 b48) b48 e48 a48 y0 y1 y2 y3 y4 y5 ++ wTk Z kk t (nI (Lt + 1)) kf sf vf) ++ wTp Z t (nI tm) tb) rfl rfl (rmK_le (by omega) (by decide)) (Nat.le_of_ble_eq_true rfl) rfl rfl ?_
      rintro _ _ ⟨rfl, rfl⟩
      refine J_st ([]) rfl ?_
      refine J_ws (((wBk Z b L (nI m) lc (nI (inc s48 400)) nm bP bH (updC o48 s48 400 1) (updC g48 s48 400 0) (updC j48 s48 400 0) l0 l1 l2 l3 l4 l5 ++ wPa Z p kk b (nI i48) (sf i48) (nw tk i48 b48) b48 e48 a48 y0 y1 y2 y3 y4 y5) ++ wTk Z kk t (nI (Lt + 1)) kf sf vf) ++ wTp Z t (nI tm) tb) rfl ?_
      have hic49 := inc_le (s := s48) (by omega)
      refine J_goto 298 C iX3_value_58 rfl ?_
      exact J_vret C E iX3_value_298 ⟨i48, b48, e48, a48, (inc s48 400), updC o48 s48 400 1, updC g48 s48 400 0, updC j48 s48 400 0, by rw [valB, if_neg (show ¬ nowC tk (i, b0, e, a, s, o, g, j) = 40 from hs7), if_pos (show nowC tk (i, b0, e, a, s, o, g, j) = 11 from hs37)]; rw [hR48]; first | done | rfl, by omega, by omega, rfl, rfl⟩
    · refine J_acmpne 61 C iX3_value_37 rfl (fun h37 => ?_) (fun h37 => absurd h37 (fun e => hs37 (zad_inj C (nw_lt htk _ _) (by decide) e)))
      refine J_aload_n C iX3_value_61 rfl rfl ?_
      refine J_get (.ref (zad Z (nw tk i b0))) 24 C iX3_value_62 gf_X3_24 rfl rfl ?_
      refine J_getsK C iX3_value_65 kf_X3_267 ?_
      by_cases hs68 : (nw tk i b0) = 15
      · refine J_acmpne 92 C iX3_value_68 rfl (fun h68 => absurd (congrArg (zad Z) hs68) h68) (fun h68 => ?_)
        refine J_aload_n C iX3_value_71 rfl rfl ?_
        refine J_getsK C iX3_value_72 kf_X3_267 ?_
        refine J_cV (As := [.ref (zad Z 15)]) (st := []) (rc2 := (rmK (36 - 4 * d)).cells) (rs2 := (rmK (36 - 4 * d)).slots) C iX3_value_75 lm_X3_85 yc_X3_take yv_X3_take (c_X3_take (k := 15) hLt hkf htk hend (by omega) (by omega) hm (by decide) (by decide) (by decide)) (q0 := 24) rfl rfl rfl rfl (rmK_le (by omega) (by decide)) (Nat.le_of_ble_eq_true rfl) rfl rfl ?_
        rintro _ _ ⟨i50, b50, e50, a50, s50, o50, g50, j50, hR50, hli50, hls50, rfl, rfl⟩
        refine J_st (.long (valT tk vf 15 (i, b0, e, a, s, o, g, j)) :: []) rfl ?_
        refine J_pop2 C iX3_value_78 rfl ?_
        refine J_aload_n C iX3_value_79 rfl rfl ?_
        refine J_get (.ref (b 0)) 24 C iX3_value_80 gf_X3_31 rfl rfl ?_
        refine J_iconst 2 C iX3_value_83 rfl ?_
        refine J_iconst 0 C iX3_value_84 rfl ?_
        refine J_iconst 0 C iX3_value_85 rfl ?_
        refine J_cVb (As := [.int 2, .int 0, .int 0]) (st := []) (rc2 := (rmK (36 - 4 * d)).cells) (rs2 := (rmK (36 - 4 * d)).slots) C iX3_value_86 lm_X3_195 yc_X0_addStep yv_X0_addStep (c_X0_addStep (m := s50) (by omega)) (q0 := 0) rfl rfl rfl [] ((wPa Z p kk b (nI i50) (sf i50) (nw tk i50 b50) b50 e50 a50 y0 y1 y2 y3 y4 y5 ++ wTk Z kk t (nI (Lt + 1)) kf sf vf) ++ wTp Z t (nI tm) tb) rfl rfl (rmK_le (by omega) (by decide)) (Nat.le_of_ble_eq_true rfl) rfl rfl ?_
        rintro _ _ ⟨rfl, rfl⟩
        refine J_st ([]) rfl ?_
        refine J_ws (((wBk Z b L (nI m) lc (nI (inc s50 400)) nm bP bH (updC o50 s50 400 2) (updC g50 s50 400 0) (updC j50 s50 400 0) l0 l1 l2 l3 l4 l5 ++ wPa Z p kk b (nI i50) (sf i50) (nw tk i50 b50) b50 e50 a50 y0 y1 y2 y3 y4 y5) ++ wTk Z kk t (nI (Lt + 1)) kf sf vf) ++ wTp Z t (nI tm) tb) rfl ?_
        have hic51 := inc_le (s := s50) (by omega)
        refine J_goto 298 C iX3_value_89 rfl ?_
        exact J_vret C E iX3_value_298 ⟨i50, b50, e50, a50, (inc s50 400), updC o50 s50 400 2, updC g50 s50 400 0, updC j50 s50 400 0, by rw [valB, if_neg (show ¬ nowC tk (i, b0, e, a, s, o, g, j) = 40 from hs7), if_neg (show ¬ nowC tk (i, b0, e, a, s, o, g, j) = 11 from hs37), if_pos (show nowC tk (i, b0, e, a, s, o, g, j) = 15 from hs68)]; rw [hR50]; first | done | rfl, by omega, by omega, rfl, rfl⟩
      · refine J_acmpne 92 C iX3_value_68 rfl (fun h68 => ?_) (fun h68 => absurd h68 (fun e => hs68 (zad_inj C (nw_lt htk _ _) (by decide) e)))
        refine J_aload_n C iX3_value_92 rfl rfl ?_
        refine J_get (.ref (zad Z (nw tk i b0))) 24 C iX3_value_93 gf_X3_24 rfl rfl ?_
        refine J_getsK C iX3_value_96 kf_X3_270 ?_
        by_cases hs99 : (nw tk i b0) = 12
        · refine J_acmpeq 122 C iX3_value_99 rfl (fun h99 => ?_) (fun h99 => absurd (congrArg (zad Z) hs99) h99)
          refine J_aload_n C iX3_value_122 rfl rfl ?_
          refine J_get (.ref (zad Z (nw tk i b0))) 24 C iX3_value_123 gf_X3_24 rfl rfl ?_
          refine J_getsK C iX3_value_126 kf_X3_270 ?_
          refine J_acmpne 136 C iX3_value_129 rfl (fun h129 => absurd (congrArg (zad Z) hs99) h129) (fun h129 => ?_)
          refine J_iconst 3 C iX3_value_132 rfl ?_
          refine J_goto 151 C iX3_value_133 rfl ?_
          refine J_istore_n [(2, .int 3), (0, .ref (p 0)), (1, .int (nI d))] C iX3_value_151 rfl (by decide) rfl ?_
          refine J_aload_n C iX3_value_152 rfl rfl ?_
          refine J_aload_n C iX3_value_153 rfl rfl ?_
          refine J_get (.ref (zad Z (nw tk i b0))) 24 C iX3_value_154 gf_X3_24 rfl rfl ?_
          refine J_cV (As := [.ref (zad Z (nw tk i b0))]) (st := []) (rc2 := (rmK (36 - 4 * d)).cells) (rs2 := (rmK (36 - 4 * d)).slots) C iX3_value_157 lm_X3_85 yc_X3_take yv_X3_take (c_X3_take (k := nw tk i b0) hLt hkf htk hend (by omega) (by omega) hm (nw_lt htk _ _) (by rw [hs99]; decide) (by rw [hs99]; decide)) (q0 := 24) rfl rfl rfl rfl (rmK_le (by omega) (by decide)) (Nat.le_of_ble_eq_true rfl) rfl rfl ?_
          rintro _ _ ⟨i52, b52, e52, a52, s52, o52, g52, j52, hR52, hli52, hls52, rfl, rfl⟩
          refine J_st (.long (valT tk vf (nw tk i b0) (i, b0, e, a, s, o, g, j)) :: []) rfl ?_
          refine J_pop2 C iX3_value_160 rfl ?_
          refine J_aload_n C iX3_value_161 rfl rfl ?_
          refine J_getsK C iX3_value_162 kf_X3_279 ?_
          refine J_cV (As := [.ref (zad Z 16)]) (st := []) (rc2 := (rmK (36 - 4 * d)).cells) (rs2 := (rmK (36 - 4 * d)).slots) C iX3_value_165 lm_X3_85 yc_X3_take yv_X3_take (c_X3_take (k := 16) hLt hkf htk hend (by omega) (by omega) hm (by decide) (by decide) (by decide)) (q0 := 24) rfl rfl rfl rfl (rmK_le (by omega) (by decide)) (Nat.le_of_ble_eq_true rfl) rfl rfl ?_
          rintro _ _ ⟨i53, b53, e53, a53, s53, o53, g53, j53, hR53, hli53, hls53, rfl, rfl⟩
          refine J_st (.long (valT tk vf 16 (i52, b52, e52, a52, s52, o52, g52, j52)) :: []) rfl ?_
          refine J_pop2 C iX3_value_168 rfl ?_
          refine J_aload_n C iX3_value_169 rfl rfl ?_
          refine J_get (.ref (b 0)) 24 C iX3_value_170 gf_X3_31 rfl rfl ?_
          refine J_iload_n C iX3_value_173 rfl rfl ?_
          refine J_aload_n C iX3_value_174 rfl rfl ?_
          refine J_cV (As := []) (st := .int 3 :: .ref (b 0) :: []) (rc2 := (rmK (36 - 4 * d)).cells) (rs2 := (rmK (36 - 4 * d)).slots) C iX3_value_175 lm_X3_164 yc_X3_knownHouse yv_X3_knownHouse (c_X3_knownHouse hLt hkf htk hend (by omega) (by omega) hm) (q0 := 24) rfl rfl rfl rfl (rmK_le (by omega) (by decide)) (Nat.le_of_ble_eq_true rfl) rfl rfl ?_
          rintro _ _ ⟨i54, b54, e54, a54, s54, o54, g54, j54, hR54, hli54, hls54, rfl, rfl⟩
          refine J_st (.int (hseC tk vf nm m (i53, b53, e53, a53, s53, o53, g53, j53)) :: .int 3 :: .ref (b 0) :: []) rfl ?_
          refine J_iconst 0 C iX3_value_178 rfl ?_
          refine J_cVb (As := [.int 3, .int (hseC tk vf nm m (i53, b53, e53, a53, s53, o53, g53, j53)), .int 0]) (st := []) (rc2 := (rmK (36 - 4 * d)).cells) (rs2 := (rmK (36 - 4 * d)).slots) C iX3_value_179 lm_X3_195 yc_X0_addStep yv_X0_addStep (c_X0_addStep (m := s54) (by omega)) (q0 := 0) rfl rfl rfl [] ((wPa Z p kk b (nI i54) (sf i54) (nw tk i54 b54) b54 e54 a54 y0 y1 y2 y3 y4 y5 ++ wTk Z kk t (nI (Lt + 1)) kf sf vf) ++ wTp Z t (nI tm) tb) rfl rfl (rmK_le (by omega) (by decide)) (Nat.le_of_ble_eq_true rfl) rfl rfl ?_
          rintro _ _ ⟨rfl, rfl⟩
          refine J_st ([]) rfl ?_
          refine J_ws (((wBk Z b L (nI m) lc (nI (inc s54 400)) nm bP bH (updC o54 s54 400 3) (updC g54 s54 400 (hseC tk vf nm m (i53, b53, e53, a53, s53, o53, g53, j53))) (updC j54 s54 400 0) l0 l1 l2 l3 l4 l5 ++ wPa Z p kk b (nI i54) (sf i54) (nw tk i54 b54) b54 e54 a54 y0 y1 y2 y3 y4 y5) ++ wTk Z kk t (nI (Lt + 1)) kf sf vf) ++ wTp Z t (nI tm) tb) rfl ?_
          have hic55 := inc_le (s := s54) (by omega)
          refine J_goto 298 C iX3_value_182 rfl ?_
          exact J_vret C E iX3_value_298 ⟨i54, b54, e54, a54, (inc s54 400), updC o54 s54 400 3, updC g54 s54 400 (hseC tk vf nm m (i53, b53, e53, a53, s53, o53, g53, j53)), updC j54 s54 400 0, by rw [valB, if_neg (show ¬ nowC tk (i, b0, e, a, s, o, g, j) = 40 from hs7), if_neg (show ¬ nowC tk (i, b0, e, a, s, o, g, j) = 11 from hs37), if_neg (show ¬ nowC tk (i, b0, e, a, s, o, g, j) = 15 from hs68), if_pos (show nowC tk (i, b0, e, a, s, o, g, j) = 12 from hs99)]; rw [abtC, show nowC tk (i, b0, e, a, s, o, g, j) = nw tk i b0 from rfl, hR52, hR53, hR54]; first | done | rfl, by omega, by omega, rfl, rfl⟩
        · refine J_acmpeq 122 C iX3_value_99 rfl (fun h99 => absurd h99 (fun e => hs99 (zad_inj C (nw_lt htk _ _) (by decide) e))) (fun h99 => ?_)
          refine J_aload_n C iX3_value_102 rfl rfl ?_
          refine J_get (.ref (zad Z (nw tk i b0))) 24 C iX3_value_103 gf_X3_24 rfl rfl ?_
          refine J_getsK C iX3_value_106 kf_X3_273 ?_
          by_cases hs109 : (nw tk i b0) = 13
          · refine J_acmpeq 122 C iX3_value_109 rfl (fun h109 => ?_) (fun h109 => absurd (congrArg (zad Z) hs109) h109)
            refine J_aload_n C iX3_value_122 rfl rfl ?_
            refine J_get (.ref (zad Z (nw tk i b0))) 24 C iX3_value_123 gf_X3_24 rfl rfl ?_
            refine J_getsK C iX3_value_126 kf_X3_270 ?_
            refine J_acmpne 136 C iX3_value_129 rfl (fun h129 => ?_) (fun h129 => absurd h129 (fun e => absurd (hs109.symm.trans (zad_inj C (nw_lt htk _ _) (by decide) e)) (by decide)))
            refine J_aload_n C iX3_value_136 rfl rfl ?_
            refine J_get (.ref (zad Z (nw tk i b0))) 24 C iX3_value_137 gf_X3_24 rfl rfl ?_
            refine J_getsK C iX3_value_140 kf_X3_273 ?_
            refine J_acmpne 150 C iX3_value_143 rfl (fun h143 => absurd (congrArg (zad Z) hs109) h143) (fun h143 => ?_)
            refine J_iconst 4 C iX3_value_146 rfl ?_
            refine J_goto 151 C iX3_value_147 rfl ?_
            refine J_istore_n [(2, .int 4), (0, .ref (p 0)), (1, .int (nI d))] C iX3_value_151 rfl (by decide) rfl ?_
            refine J_aload_n C iX3_value_152 rfl rfl ?_
            refine J_aload_n C iX3_value_153 rfl rfl ?_
            refine J_get (.ref (zad Z (nw tk i b0))) 24 C iX3_value_154 gf_X3_24 rfl rfl ?_
            refine J_cV (As := [.ref (zad Z (nw tk i b0))]) (st := []) (rc2 := (rmK (36 - 4 * d)).cells) (rs2 := (rmK (36 - 4 * d)).slots) C iX3_value_157 lm_X3_85 yc_X3_take yv_X3_take (c_X3_take (k := nw tk i b0) hLt hkf htk hend (by omega) (by omega) hm (nw_lt htk _ _) (by rw [hs109]; decide) (by rw [hs109]; decide)) (q0 := 24) rfl rfl rfl rfl (rmK_le (by omega) (by decide)) (Nat.le_of_ble_eq_true rfl) rfl rfl ?_
            rintro _ _ ⟨i56, b56, e56, a56, s56, o56, g56, j56, hR56, hli56, hls56, rfl, rfl⟩
            refine J_st (.long (valT tk vf (nw tk i b0) (i, b0, e, a, s, o, g, j)) :: []) rfl ?_
            refine J_pop2 C iX3_value_160 rfl ?_
            refine J_aload_n C iX3_value_161 rfl rfl ?_
            refine J_getsK C iX3_value_162 kf_X3_279 ?_
            refine J_cV (As := [.ref (zad Z 16)]) (st := []) (rc2 := (rmK (36 - 4 * d)).cells) (rs2 := (rmK (36 - 4 * d)).slots) C iX3_value_165 lm_X3_85 yc_X3_take yv_X3_take (c_X3_take (k := 16) hLt hkf htk hend (by omega) (by omega) hm (by decide) (by decide) (by decide)) (q0 := 24) rfl rfl rfl rfl (rmK_le (by omega) (by decide)) (Nat.le_of_ble_eq_true rfl) rfl rfl ?_
            rintro _ _ ⟨i57, b57, e57, a57, s57, o57, g57, j57, hR57, hli57, hls57, rfl, rfl⟩
            refine J_st (.long (valT tk vf 16 (i56, b56, e56, a56, s56, o56, g56, j56)) :: []) rfl ?_
            refine J_pop2 C iX3_value_168 rfl ?_
            refine J_aload_n C iX3_value_169 rfl rfl ?_
            refine J_get (.ref (b 0)) 24 C iX3_value_170 gf_X3_31 rfl rfl ?_
            refine J_iload_n C iX3_value_173 rfl rfl ?_
            refine J_aload_n C iX3_value_174 rfl rfl ?_
            refine J_cV (As := []) (st := .int 4 :: .ref (b 0) :: []) (rc2 := (rmK (36 - 4 * d)).cells) (rs2 := (rmK (36 - 4 * d)).slots) C iX3_value_175 lm_X3_164 yc_X3_knownHouse yv_X3_knownHouse (c_X3_knownHouse hLt hkf htk hend (by omega) (by omega) hm) (q0 := 24) rfl rfl rfl rfl (rmK_le (by omega) (by decide)) (Nat.le_of_ble_eq_true rfl) rfl rfl ?_
            rintro _ _ ⟨i58, b58, e58, a58, s58, o58, g58, j58, hR58, hli58, hls58, rfl, rfl⟩
            refine J_st (.int (hseC tk vf nm m (i57, b57, e57, a57, s57, o57, g57, j57)) :: .int 4 :: .ref (b 0) :: []) rfl ?_
            refine J_iconst 0 C iX3_value_178 rfl ?_
            refine J_cVb (As := [.int 4, .int (hseC tk vf nm m (i57, b57, e57, a57, s57, o57, g57, j57)), .int 0]) (st := []) (rc2 := (rmK (36 - 4 * d)).cells) (rs2 := (rmK (36 - 4 * d)).slots) C iX3_value_179 lm_X3_195 yc_X0_addStep yv_X0_addStep (c_X0_addStep (m := s58) (by omega)) (q0 := 0) rfl rfl rfl [] ((wPa Z p kk b (nI i58) (sf i58) (nw tk i58 b58) b58 e58 a58 y0 y1 y2 y3 y4 y5 ++ wTk Z kk t (nI (Lt + 1)) kf sf vf) ++ wTp Z t (nI tm) tb) rfl rfl (rmK_le (by omega) (by decide)) (Nat.le_of_ble_eq_true rfl) rfl rfl ?_
            rintro _ _ ⟨rfl, rfl⟩
            refine J_st ([]) rfl ?_
            refine J_ws (((wBk Z b L (nI m) lc (nI (inc s58 400)) nm bP bH (updC o58 s58 400 4) (updC g58 s58 400 (hseC tk vf nm m (i57, b57, e57, a57, s57, o57, g57, j57))) (updC j58 s58 400 0) l0 l1 l2 l3 l4 l5 ++ wPa Z p kk b (nI i58) (sf i58) (nw tk i58 b58) b58 e58 a58 y0 y1 y2 y3 y4 y5) ++ wTk Z kk t (nI (Lt + 1)) kf sf vf) ++ wTp Z t (nI tm) tb) rfl ?_
            have hic59 := inc_le (s := s58) (by omega)
            refine J_goto 298 C iX3_value_182 rfl ?_
            exact J_vret C E iX3_value_298 ⟨i58, b58, e58, a58, (inc s58 400), updC o58 s58 400 4, updC g58 s58 400 (hseC tk vf nm m (i57, b57, e57, a57, s57, o57, g57, j57)), updC j58 s58 400 0, by rw [valB, if_neg (show ¬ nowC tk (i, b0, e, a, s, o, g, j) = 40 from hs7), if_neg (show ¬ nowC tk (i, b0, e, a, s, o, g, j) = 11 from hs37), if_neg (show ¬ nowC tk (i, b0, e, a, s, o, g, j) = 15 from hs68), if_neg (show ¬ nowC tk (i, b0, e, a, s, o, g, j) = 12 from hs99), if_pos (show nowC tk (i, b0, e, a, s, o, g, j) = 13 from hs109)]; rw [abtC, show nowC tk (i, b0, e, a, s, o, g, j) = nw tk i b0 from rfl, hR56, hR57, hR58]; first | done | rfl, by omega, by omega, rfl, rfl⟩
          · refine J_acmpeq 122 C iX3_value_109 rfl (fun h109 => absurd h109 (fun e => hs109 (zad_inj C (nw_lt htk _ _) (by decide) e))) (fun h109 => ?_)
            refine J_aload_n C iX3_value_112 rfl rfl ?_
            refine J_get (.ref (zad Z (nw tk i b0))) 24 C iX3_value_113 gf_X3_24 rfl rfl ?_
            refine J_getsK C iX3_value_116 kf_X3_276 ?_
            by_cases hs119 : (nw tk i b0) = 14
            · refine J_acmpne 185 C iX3_value_119 rfl (fun h119 => absurd (congrArg (zad Z) hs119) h119) (fun h119 => ?_)
              refine J_aload_n C iX3_value_122 rfl rfl ?_
              refine J_get (.ref (zad Z (nw tk i b0))) 24 C iX3_value_123 gf_X3_24 rfl rfl ?_
              refine J_getsK C iX3_value_126 kf_X3_270 ?_
              refine J_acmpne 136 C iX3_value_129 rfl (fun h129 => ?_) (fun h129 => absurd h129 (fun e => absurd (hs119.symm.trans (zad_inj C (nw_lt htk _ _) (by decide) e)) (by decide)))
              refine J_aload_n C iX3_value_136 rfl rfl ?_
              refine J_get (.ref (zad Z (nw tk i b0))) 24 C iX3_value_137 gf_X3_24 rfl rfl ?_
              refine J_getsK C iX3_value_140 kf_X3_273 ?_
              refine J_acmpne 150 C iX3_value_143 rfl (fun h143 => ?_) (fun h143 => absurd h143 (fun e => absurd (hs119.symm.trans (zad_inj C (nw_lt htk _ _) (by decide) e)) (by decide)))
              refine J_iconst 5 C iX3_value_150 rfl ?_
              refine J_istore_n [(2, .int 5), (0, .ref (p 0)), (1, .int (nI d))] C iX3_value_151 rfl (by decide) rfl ?_
              refine J_aload_n C iX3_value_152 rfl rfl ?_
              refine J_aload_n C iX3_value_153 rfl rfl ?_
              refine J_get (.ref (zad Z (nw tk i b0))) 24 C iX3_value_154 gf_X3_24 rfl rfl ?_
              refine J_cV (As := [.ref (zad Z (nw tk i b0))]) (st := []) (rc2 := (rmK (36 - 4 * d)).cells) (rs2 := (rmK (36 - 4 * d)).slots) C iX3_value_157 lm_X3_85 yc_X3_take yv_X3_take (c_X3_take (k := nw tk i b0) hLt hkf htk hend (by omega) (by omega) hm (nw_lt htk _ _) (by rw [hs119]; decide) (by rw [hs119]; decide)) (q0 := 24) rfl rfl rfl rfl (rmK_le (by omega) (by decide)) (Nat.le_of_ble_eq_true rfl) rfl rfl ?_
              rintro _ _ ⟨i60, b60, e60, a60, s60, o60, g60, j60, hR60, hli60, hls60, rfl, rfl⟩
              refine J_st (.long (valT tk vf (nw tk i b0) (i, b0, e, a, s, o, g, j)) :: []) rfl ?_
              refine J_pop2 C iX3_value_160 rfl ?_
              refine J_aload_n C iX3_value_161 rfl rfl ?_
              refine J_getsK C iX3_value_162 kf_X3_279 ?_
              refine J_cV (As := [.ref (zad Z 16)]) (st := []) (rc2 := (rmK (36 - 4 * d)).cells) (rs2 := (rmK (36 - 4 * d)).slots) C iX3_value_165 lm_X3_85 yc_X3_take yv_X3_take (c_X3_take (k := 16) hLt hkf htk hend (by omega) (by omega) hm (by decide) (by decide) (by decide)) (q0 := 24) rfl rfl rfl rfl (rmK_le (by omega) (by decide)) (Nat.le_of_ble_eq_true rfl) rfl rfl ?_
              rintro _ _ ⟨i61, b61, e61, a61, s61, o61, g61, j61, hR61, hli61, hls61, rfl, rfl⟩
              refine J_st (.long (valT tk vf 16 (i60, b60, e60, a60, s60, o60, g60, j60)) :: []) rfl ?_
              refine J_pop2 C iX3_value_168 rfl ?_
              refine J_aload_n C iX3_value_169 rfl rfl ?_
              refine J_get (.ref (b 0)) 24 C iX3_value_170 gf_X3_31 rfl rfl ?_
              refine J_iload_n C iX3_value_173 rfl rfl ?_
              refine J_aload_n C iX3_value_174 rfl rfl ?_
              refine J_cV (As := []) (st := .int 5 :: .ref (b 0) :: []) (rc2 := (rmK (36 - 4 * d)).cells) (rs2 := (rmK (36 - 4 * d)).slots) C iX3_value_175 lm_X3_164 yc_X3_knownHouse yv_X3_knownHouse (c_X3_knownHouse hLt hkf htk hend (by omega) (by omega) hm) (q0 := 24) rfl rfl rfl rfl (rmK_le (by omega) (by decide)) (Nat.le_of_ble_eq_true rfl) rfl rfl ?_
              rintro _ _ ⟨i62, b62, e62, a62, s62, o62, g62, j62, hR62, hli62, hls62, rfl, rfl⟩
              refine J_st (.int (hseC tk vf nm m (i61, b61, e61, a61, s61, o61, g61, j61)) :: .int 5 :: .ref (b 0) :: []) rfl ?_
              refine J_iconst 0 C iX3_value_178 rfl ?_
              refine J_cVb (As := [.int 5, .int (hseC tk vf nm m (i61, b61, e61, a61, s61, o61, g61, j61)), .int 0]) (st := []) (rc2 := (rmK (36 - 4 * d)).cells) (rs2 := (rmK (36 - 4 * d)).slots) C iX3_value_179 lm_X3_195 yc_X0_addStep yv_X0_addStep (c_X0_addStep (m := s62) (by omega)) (q0 := 0) rfl rfl rfl [] ((wPa Z p kk b (nI i62) (sf i62) (nw tk i62 b62) b62 e62 a62 y0 y1 y2 y3 y4 y5 ++ wTk Z kk t (nI (Lt + 1)) kf sf vf) ++ wTp Z t (nI tm) tb) rfl rfl (rmK_le (by omega) (by decide)) (Nat.le_of_ble_eq_true rfl) rfl rfl ?_
              rintro _ _ ⟨rfl, rfl⟩
              refine J_st ([]) rfl ?_
              refine J_ws (((wBk Z b L (nI m) lc (nI (inc s62 400)) nm bP bH (updC o62 s62 400 5) (updC g62 s62 400 (hseC tk vf nm m (i61, b61, e61, a61, s61, o61, g61, j61))) (updC j62 s62 400 0) l0 l1 l2 l3 l4 l5 ++ wPa Z p kk b (nI i62) (sf i62) (nw tk i62 b62) b62 e62 a62 y0 y1 y2 y3 y4 y5) ++ wTk Z kk t (nI (Lt + 1)) kf sf vf) ++ wTp Z t (nI tm) tb) rfl ?_
              have hic63 := inc_le (s := s62) (by omega)
              refine J_goto 298 C iX3_value_182 rfl ?_
              exact J_vret C E iX3_value_298 ⟨i62, b62, e62, a62, (inc s62 400), updC o62 s62 400 5, updC g62 s62 400 (hseC tk vf nm m (i61, b61, e61, a61, s61, o61, g61, j61)), updC j62 s62 400 0, by rw [valB, if_neg (show ¬ nowC tk (i, b0, e, a, s, o, g, j) = 40 from hs7), if_neg (show ¬ nowC tk (i, b0, e, a, s, o, g, j) = 11 from hs37), if_neg (show ¬ nowC tk (i, b0, e, a, s, o, g, j) = 15 from hs68), if_neg (show ¬ nowC tk (i, b0, e, a, s, o, g, j) = 12 from hs99), if_neg (show ¬ nowC tk (i, b0, e, a, s, o, g, j) = 13 from hs109), if_pos (show nowC tk (i, b0, e, a, s, o, g, j) = 14 from hs119)]; rw [abtC, show nowC tk (i, b0, e, a, s, o, g, j) = nw tk i b0 from rfl, hR60, hR61, hR62]; first | done | rfl, by omega, by omega, rfl, rfl⟩
            · refine J_acmpne 185 C iX3_value_119 rfl (fun h119 => ?_) (fun h119 => absurd h119 (fun e => hs119 (zad_inj C (nw_lt htk _ _) (by decide) e)))
              refine J_aload_n C iX3_value_185 rfl rfl ?_
              refine J_get (.ref (zad Z (nw tk i b0))) 24 C iX3_value_186 gf_X3_24 rfl rfl ?_
              refine J_getsK C iX3_value_189 kf_X3_252 ?_
              by_cases hs192 : (nw tk i b0) = 31
              · refine J_acmpne 227 C iX3_value_192 rfl (fun h192 => absurd (congrArg (zad Z) hs192) h192) (fun h192 => ?_)
                refine J_aload_n C iX3_value_195 rfl rfl ?_
                refine J_getsK C iX3_value_196 kf_X3_252 ?_
                refine J_iload_n C iX3_value_199 rfl rfl ?_
                refine J_cV (As := [.ref (zad Z 31), .int (nI d)]) (st := []) (rc2 := (rmK (36 - 4 * d)).cells) (rs2 := (rmK (36 - 4 * d)).slots) C iX3_value_200 lm_X3_208 yc_X3_goesDeeper yv_X3_goesDeeper (c_X3_goesDeeper (k := 31) (d := d) hLt hkf htk hend (by omega) (by omega) hm (by decide) (by decide) (by decide) (by omega)) (q0 := 24) rfl rfl rfl rfl (rmK_le (by omega) (by decide)) (Nat.le_of_ble_eq_true rfl) rfl rfl ?_
                rintro _ _ ⟨i64, b64, e64, a64, s64, o64, g64, j64, hR64, hli64, hls64, rfl, rfl⟩
                refine J_st (.int (b2i (!b64)) :: []) rfl ?_
                cases b64
                · refine J_ifeqb 298 C iX3_value_203 rfl (fun h203 => absurd (h203.symm.trans rfl) (by decide)) (fun h203 => ?_)
                  refine J_aload_n C iX3_value_206 rfl rfl ?_
                  refine J_iload_n C iX3_value_207 rfl rfl ?_
                  refine J_iconst 1 C iX3_value_208 rfl ?_
                  refine J_iadd C iX3_value_209 ?_
                  rw [show (nI d) + 1 = nI (d + 1) from nI_add _ _]
                  refine J_cV (As := [.int (nI (d + 1))]) (st := []) (rc2 := (rmK (36 - 4 * d)).cells) (rs2 := (rmK (36 - 4 * d)).slots) C iX3_value_210 lm_X3_255 yc_X3_value yv_X3_value (hv (deep_lt hR64) (by omega) (by omega)) (q0 := 24) rfl rfl rfl rfl (rmK_le (by omega) (by decide)) (Nat.le_of_ble_eq_true rfl) rfl rfl ?_
                  rintro _ _ ⟨i65, b65, e65, a65, s65, o65, g65, j65, hR65, hli65, hls65, rfl, rfl⟩
                  refine J_st ([]) rfl ?_
                  refine J_aload_n C iX3_value_213 rfl rfl ?_
                  refine J_get (.ref (b 0)) 24 C iX3_value_214 gf_X3_31 rfl rfl ?_
                  refine J_bipush 8 C iX3_value_217 rfl ?_
                  refine J_iconst 0 C iX3_value_219 rfl ?_
                  refine J_iconst 0 C iX3_value_220 rfl ?_
                  refine J_cVb (As := [.int 8, .int 0, .int 0]) (st := []) (rc2 := (rmK (36 - 4 * d)).cells) (rs2 := (rmK (36 - 4 * d)).slots) C iX3_value_221 lm_X3_195 yc_X0_addStep yv_X0_addStep (c_X0_addStep (m := s65) (by omega)) (q0 := 0) rfl rfl rfl [] ((wPa Z p kk b (nI i65) (sf i65) (nw tk i65 b65) b65 e65 a65 y0 y1 y2 y3 y4 y5 ++ wTk Z kk t (nI (Lt + 1)) kf sf vf) ++ wTp Z t (nI tm) tb) rfl rfl (rmK_le (by omega) (by decide)) (Nat.le_of_ble_eq_true rfl) rfl rfl ?_
                  rintro _ _ ⟨rfl, rfl⟩
                  refine J_st ([]) rfl ?_
                  refine J_ws (((wBk Z b L (nI m) lc (nI (inc s65 400)) nm bP bH (updC o65 s65 400 8) (updC g65 s65 400 0) (updC j65 s65 400 0) l0 l1 l2 l3 l4 l5 ++ wPa Z p kk b (nI i65) (sf i65) (nw tk i65 b65) b65 e65 a65 y0 y1 y2 y3 y4 y5) ++ wTk Z kk t (nI (Lt + 1)) kf sf vf) ++ wTp Z t (nI tm) tb) rfl ?_
                  have hic66 := inc_le (s := s65) (by omega)
                  refine J_goto 298 C iX3_value_224 rfl ?_
                  exact J_vret C E iX3_value_298 ⟨i65, b65, e65, a65, (inc s65 400), updC o65 s65 400 8, updC g65 s65 400 0, updC j65 s65 400 0, by rw [valB, if_neg (show ¬ nowC tk (i, b0, e, a, s, o, g, j) = 40 from hs7), if_neg (show ¬ nowC tk (i, b0, e, a, s, o, g, j) = 11 from hs37), if_neg (show ¬ nowC tk (i, b0, e, a, s, o, g, j) = 15 from hs68), if_neg (show ¬ nowC tk (i, b0, e, a, s, o, g, j) = 12 from hs99), if_neg (show ¬ nowC tk (i, b0, e, a, s, o, g, j) = 13 from hs109), if_neg (show ¬ nowC tk (i, b0, e, a, s, o, g, j) = 14 from hs119), if_pos (show nowC tk (i, b0, e, a, s, o, g, j) = 31 from hs192)]; rw [hR64, if_neg (show ¬ brkC (i64, false, e64, a64, s64, o64, g64, j64) = true from Bool.false_ne_true), hR65]; first | done | rfl, by omega, by omega, rfl, rfl⟩
                · refine J_ifeqb 298 C iX3_value_203 rfl (fun h203 => ?_) (fun h203 => absurd (h203.symm.trans rfl) (by decide))
                  exact J_vret C E iX3_value_298 ⟨i64, true, e64, a64, s64, o64, g64, j64, by rw [valB, if_neg (show ¬ nowC tk (i, b0, e, a, s, o, g, j) = 40 from hs7), if_neg (show ¬ nowC tk (i, b0, e, a, s, o, g, j) = 11 from hs37), if_neg (show ¬ nowC tk (i, b0, e, a, s, o, g, j) = 15 from hs68), if_neg (show ¬ nowC tk (i, b0, e, a, s, o, g, j) = 12 from hs99), if_neg (show ¬ nowC tk (i, b0, e, a, s, o, g, j) = 13 from hs109), if_neg (show ¬ nowC tk (i, b0, e, a, s, o, g, j) = 14 from hs119), if_pos (show nowC tk (i, b0, e, a, s, o, g, j) = 31 from hs192)]; rw [hR64, if_pos (show brkC (i64, true, e64, a64, s64, o64, g64, j64) = true from rfl)]; first | done | rfl, by omega, by omega, rfl, rfl⟩
              · refine J_acmpne 227 C iX3_value_192 rfl (fun h192 => ?_) (fun h192 => absurd h192 (fun e => hs192 (zad_inj C (nw_lt htk _ _) (by decide) e)))
                refine J_aload_n C iX3_value_227 rfl rfl ?_
                refine J_get (.ref (zad Z (nw tk i b0))) 24 C iX3_value_228 gf_X3_24 rfl rfl ?_
                refine J_getsK C iX3_value_231 kf_X3_282 ?_
                by_cases hs234 : (nw tk i b0) = 24
                · refine J_acmpne 266 C iX3_value_234 rfl (fun h234 => absurd (congrArg (zad Z) hs234) h234) (fun h234 => ?_)
                  refine J_aload_n C iX3_value_237 rfl rfl ?_
                  refine J_getsK C iX3_value_238 kf_X3_282 ?_
                  refine J_iload_n C iX3_value_241 rfl rfl ?_
                  refine J_cV (As := [.ref (zad Z 24), .int (nI d)]) (st := []) (rc2 := (rmK (36 - 4 * d)).cells) (rs2 := (rmK (36 - 4 * d)).slots) C iX3_value_242 lm_X3_208 yc_X3_goesDeeper yv_X3_goesDeeper (c_X3_goesDeeper (k := 24) (d := d) hLt hkf htk hend (by omega) (by omega) hm (by decide) (by decide) (by decide) (by omega)) (q0 := 24) rfl rfl rfl rfl (rmK_le (by omega) (by decide)) (Nat.le_of_ble_eq_true rfl) rfl rfl ?_
                  rintro _ _ ⟨i67, b67, e67, a67, s67, o67, g67, j67, hR67, hli67, hls67, rfl, rfl⟩
                  refine J_st (.int (b2i (!b67)) :: []) rfl ?_
                  cases b67
                  · refine J_ifeqb 298 C iX3_value_245 rfl (fun h245 => absurd (h245.symm.trans rfl) (by decide)) (fun h245 => ?_)
                    refine J_aload_n C iX3_value_248 rfl rfl ?_
                    refine J_iload_n C iX3_value_249 rfl rfl ?_
                    refine J_iconst 1 C iX3_value_250 rfl ?_
                    refine J_iadd C iX3_value_251 ?_
                    rw [show (nI d) + 1 = nI (d + 1) from nI_add _ _]
                    refine J_cV (As := [.int (nI (d + 1))]) (st := []) (rc2 := (rmK (36 - 4 * d)).cells) (rs2 := (rmK (36 - 4 * d)).slots) C iX3_value_252 lm_X3_174 yc_X3_sum yv_X3_sum (hsum (deep_lt hR67) (by omega) (by omega)) (q0 := 24) rfl rfl rfl rfl (rmK_le (by omega) (by decide)) (Nat.le_of_ble_eq_true rfl) rfl rfl ?_
                    rintro _ _ ⟨i68, b68, e68, a68, s68, o68, g68, j68, hR68, hli68, hls68, rfl, rfl⟩
                    refine J_st ([]) rfl ?_
                    refine J_aload_n C iX3_value_255 rfl rfl ?_
                    refine J_getsK C iX3_value_256 kf_X3_285 ?_
                    refine J_cV (As := [.ref (zad Z 25)]) (st := []) (rc2 := (rmK (36 - 4 * d)).cells) (rs2 := (rmK (36 - 4 * d)).slots) C iX3_value_259 lm_X3_85 yc_X3_take yv_X3_take (c_X3_take (k := 25) hLt hkf htk hend (by omega) (by omega) hm (by decide) (by decide) (by decide)) (q0 := 24) rfl rfl rfl rfl (rmK_le (by omega) (by decide)) (Nat.le_of_ble_eq_true rfl) rfl rfl ?_
                    rintro _ _ ⟨i69, b69, e69, a69, s69, o69, g69, j69, hR69, hli69, hls69, rfl, rfl⟩
                    refine J_st (.long (valT tk vf 25 (i68, b68, e68, a68, s68, o68, g68, j68)) :: []) rfl ?_
                    refine J_pop2 C iX3_value_262 rfl ?_
                    refine J_goto 298 C iX3_value_263 rfl ?_
                    exact J_vret C E iX3_value_298 ⟨i69, b69, e69, a69, s69, o69, g69, j69, by rw [valB, if_neg (show ¬ nowC tk (i, b0, e, a, s, o, g, j) = 40 from hs7), if_neg (show ¬ nowC tk (i, b0, e, a, s, o, g, j) = 11 from hs37), if_neg (show ¬ nowC tk (i, b0, e, a, s, o, g, j) = 15 from hs68), if_neg (show ¬ nowC tk (i, b0, e, a, s, o, g, j) = 12 from hs99), if_neg (show ¬ nowC tk (i, b0, e, a, s, o, g, j) = 13 from hs109), if_neg (show ¬ nowC tk (i, b0, e, a, s, o, g, j) = 14 from hs119), if_neg (show ¬ nowC tk (i, b0, e, a, s, o, g, j) = 31 from hs192), if_pos (show nowC tk (i, b0, e, a, s, o, g, j) = 24 from hs234)]; rw [hR67, if_neg (show ¬ brkC (i67, false, e67, a67, s67, o67, g67, j67) = true from Bool.false_ne_true), hR68, hR69]; first | done | rfl, by omega, by omega, rfl, rfl⟩
                  · refine J_ifeqb 298 C iX3_value_245 rfl (fun h245 => ?_) (fun h245 => absurd (h245.symm.trans rfl) (by decide))
                    exact J_vret C E iX3_value_298 ⟨i67, true, e67, a67, s67, o67, g67, j67, by rw [valB, if_neg (show ¬ nowC tk (i, b0, e, a, s, o, g, j) = 40 from hs7), if_neg (show ¬ nowC tk (i, b0, e, a, s, o, g, j) = 11 from hs37), if_neg (show ¬ nowC tk (i, b0, e, a, s, o, g, j) = 15 from hs68), if_neg (show ¬ nowC tk (i, b0, e, a, s, o, g, j) = 12 from hs99), if_neg (show ¬ nowC tk (i, b0, e, a, s, o, g, j) = 13 from hs109), if_neg (show ¬ nowC tk (i, b0, e, a, s, o, g, j) = 14 from hs119), if_neg (show ¬ nowC tk (i, b0, e, a, s, o, g, j) = 31 from hs192), if_pos (show nowC tk (i, b0, e, a, s, o, g, j) = 24 from hs234)]; rw [hR67, if_pos (show brkC (i67, true, e67, a67, s67, o67, g67, j67) = true from rfl)]; first | done | rfl, by omega, by omega, rfl, rfl⟩
                · refine J_acmpne 266 C iX3_value_234 rfl (fun h234 => ?_) (fun h234 => absurd h234 (fun e => hs234 (zad_inj C (nw_lt htk _ _) (by decide) e)))
                  refine J_aload_n C iX3_value_266 rfl rfl ?_
                  refine J_get (.ref (zad Z (nw tk i b0))) 24 C iX3_value_267 gf_X3_24 rfl rfl ?_
                  refine J_getsK C iX3_value_270 kf_X3_288 ?_
                  by_cases hs273 : (nw tk i b0) = 22
                  · refine J_acmpeq 286 C iX3_value_273 rfl (fun h273 => ?_) (fun h273 => absurd (congrArg (zad Z) hs273) h273)
                    refine J_aload_n C iX3_value_286 rfl rfl ?_
                    refine J_iload_n C iX3_value_287 rfl rfl ?_
                    refine J_cV (As := [.int (nI d)]) (st := []) (rc2 := (rmK (36 - 4 * d)).cells) (rs2 := (rmK (36 - 4 * d)).slots) C iX3_value_288 lm_X3_294 yc_X3_choice yv_X3_choice (c_X3_choice hLt hkf htk hend hm hd hsum (by omega) (by omega) (Or.inl hs273)) (q0 := 24) rfl rfl rfl rfl (rmK_le (by omega) (by decide)) (Nat.le_of_ble_eq_true rfl) rfl rfl ?_
                    rintro _ _ ⟨i70, b70, e70, a70, s70, o70, g70, j70, hR70, hli70, hls70, rfl, rfl⟩
                    refine J_st ([]) rfl ?_
                    refine J_goto 298 C iX3_value_291 rfl ?_
                    exact J_vret C E iX3_value_298 ⟨i70, b70, e70, a70, s70, o70, g70, j70, by rw [valB, if_neg (show ¬ nowC tk (i, b0, e, a, s, o, g, j) = 40 from hs7), if_neg (show ¬ nowC tk (i, b0, e, a, s, o, g, j) = 11 from hs37), if_neg (show ¬ nowC tk (i, b0, e, a, s, o, g, j) = 15 from hs68), if_neg (show ¬ nowC tk (i, b0, e, a, s, o, g, j) = 12 from hs99), if_neg (show ¬ nowC tk (i, b0, e, a, s, o, g, j) = 13 from hs109), if_neg (show ¬ nowC tk (i, b0, e, a, s, o, g, j) = 14 from hs119), if_neg (show ¬ nowC tk (i, b0, e, a, s, o, g, j) = 31 from hs192), if_neg (show ¬ nowC tk (i, b0, e, a, s, o, g, j) = 24 from hs234), if_pos (show nowC tk (i, b0, e, a, s, o, g, j) = 22 from hs273)]; rw [hR70]; first | done | rfl, by omega, by omega, rfl, rfl⟩
                  · refine J_acmpeq 286 C iX3_value_273 rfl (fun h273 => absurd h273 (fun e => hs273 (zad_inj C (nw_lt htk _ _) (by decide) e))) (fun h273 => ?_)
                    refine J_aload_n C iX3_value_276 rfl rfl ?_
                    refine J_get (.ref (zad Z (nw tk i b0))) 24 C iX3_value_277 gf_X3_24 rfl rfl ?_
                    refine J_getsK C iX3_value_280 kf_X3_291 ?_
                    by_cases hs283 : (nw tk i b0) = 23
                    · refine J_acmpne 294 C iX3_value_283 rfl (fun h283 => absurd (congrArg (zad Z) hs283) h283) (fun h283 => ?_)
                      refine J_aload_n C iX3_value_286 rfl rfl ?_
                      refine J_iload_n C iX3_value_287 rfl rfl ?_
                      refine J_cV (As := [.int (nI d)]) (st := []) (rc2 := (rmK (36 - 4 * d)).cells) (rs2 := (rmK (36 - 4 * d)).slots) C iX3_value_288 lm_X3_294 yc_X3_choice yv_X3_choice (c_X3_choice hLt hkf htk hend hm hd hsum (by omega) (by omega) (Or.inr hs283)) (q0 := 24) rfl rfl rfl rfl (rmK_le (by omega) (by decide)) (Nat.le_of_ble_eq_true rfl) rfl rfl ?_
                      rintro _ _ ⟨i71, b71, e71, a71, s71, o71, g71, j71, hR71, hli71, hls71, rfl, rfl⟩
                      refine J_st ([]) rfl ?_
                      refine J_goto 298 C iX3_value_291 rfl ?_
                      exact J_vret C E iX3_value_298 ⟨i71, b71, e71, a71, s71, o71, g71, j71, by rw [valB, if_neg (show ¬ nowC tk (i, b0, e, a, s, o, g, j) = 40 from hs7), if_neg (show ¬ nowC tk (i, b0, e, a, s, o, g, j) = 11 from hs37), if_neg (show ¬ nowC tk (i, b0, e, a, s, o, g, j) = 15 from hs68), if_neg (show ¬ nowC tk (i, b0, e, a, s, o, g, j) = 12 from hs99), if_neg (show ¬ nowC tk (i, b0, e, a, s, o, g, j) = 13 from hs109), if_neg (show ¬ nowC tk (i, b0, e, a, s, o, g, j) = 14 from hs119), if_neg (show ¬ nowC tk (i, b0, e, a, s, o, g, j) = 31 from hs192), if_neg (show ¬ nowC tk (i, b0, e, a, s, o, g, j) = 24 from hs234), if_neg (show ¬ nowC tk (i, b0, e, a, s, o, g, j) = 22 from hs273), if_pos (show nowC tk (i, b0, e, a, s, o, g, j) = 23 from hs283)]; rw [hR71]; first | done | rfl, by omega, by omega, rfl, rfl⟩
                    · refine J_acmpne 294 C iX3_value_283 rfl (fun h283 => ?_) (fun h283 => absurd h283 (fun e => hs283 (zad_inj C (nw_lt htk _ _) (by decide) e)))
                      refine J_aload_n C iX3_value_294 rfl rfl ?_
                      refine J_cV (As := []) (st := []) (rc2 := (rmK (36 - 4 * d)).cells) (rs2 := (rmK (36 - 4 * d)).slots) C iX3_value_295 lm_X3_228 yc_X3_fail yv_X3_fail (c_X3_fail (tk := tk) hLt hkf htk hend (by omega) (by omega) hm) (q0 := 24) rfl rfl rfl rfl (rmK_le (by omega) (by decide)) (Nat.le_of_ble_eq_true rfl) rfl rfl ?_
                      rintro _ _ ⟨i72, b72, e72, a72, s72, o72, g72, j72, hR72, hli72, hls72, rfl, rfl⟩
                      refine J_st ([]) rfl ?_
                      exact J_vret C E iX3_value_298 ⟨i72, b72, e72, a72, s72, o72, g72, j72, by rw [valB, if_neg (show ¬ nowC tk (i, b0, e, a, s, o, g, j) = 40 from hs7), if_neg (show ¬ nowC tk (i, b0, e, a, s, o, g, j) = 11 from hs37), if_neg (show ¬ nowC tk (i, b0, e, a, s, o, g, j) = 15 from hs68), if_neg (show ¬ nowC tk (i, b0, e, a, s, o, g, j) = 12 from hs99), if_neg (show ¬ nowC tk (i, b0, e, a, s, o, g, j) = 13 from hs109), if_neg (show ¬ nowC tk (i, b0, e, a, s, o, g, j) = 14 from hs119), if_neg (show ¬ nowC tk (i, b0, e, a, s, o, g, j) = 31 from hs192), if_neg (show ¬ nowC tk (i, b0, e, a, s, o, g, j) = 24 from hs234), if_neg (show ¬ nowC tk (i, b0, e, a, s, o, g, j) = 22 from hs273), if_neg (show ¬ nowC tk (i, b0, e, a, s, o, g, j) = 23 from hs283)]; rw [hR72]; first | done | rfl, by omega, by omega, rfl, rfl⟩

