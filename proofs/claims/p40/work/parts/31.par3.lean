set_option maxRecDepth 100000 in
set_option maxHeartbeats 4000000 in
theorem c_X3_both {Z : GZ} {l : Launch} {p kk t b L : Nat → Nat} {m Lt tm : Nat} {lc : Int32} {tb : Nat → Int32} {nm : Nat → Int64} {bP bH l0 l1 l2 l3 l4 l5 : Nat → Int32} {kf : Nat → Option Nat} {sf : Nat → Int32} {vf : Nat → Int64} {y0 y1 y2 y3 y4 y5 : Int32} {tk : Nat → Nat} {d : Nat} {vv : PS → PS} (hLt : Lt ≤ 400) (hkf : ∀ i, i ≤ Lt → kf i = some (zad Z (tk i))) (htk : ∀ i, tk i < 43) (hend : ∀ i, i ≤ Lt → tk i ≠ 41 → tk i ≠ 42 → i < Lt) (hm : m ≤ 12) (hd : d ≤ 8) (hv : ∀ {i s : Nat} {b0 : Bool} {e a : Int32} {o g j : Nat → Int32}, i ≤ Lt → s ≤ 400 → Ct Z l yX3_single cX3_single 3 none (rmK (40 - 4 * d)) [.ref (p 0), .int (nI d)] (((wBk Z b L (nI m) lc (nI s) nm bP bH o g j l0 l1 l2 l3 l4 l5 ++ wPa Z p kk b (nI i) (sf i) (nw tk i b0) b0 e a y0 y1 y2 y3 y4 y5) ++ wTk Z kk t (nI (Lt + 1)) kf sf vf) ++ wTp Z t (nI tm) tb) (fun v w => ∃ i2 b2 e2 a2 s2 o2 g2 j2, vv (i, b0, e, a, s, o, g, j) = (i2, b2, e2, a2, s2, o2, g2, j2) ∧ i2 ≤ Lt ∧ s2 ≤ 400 ∧ v = none ∧ w = (((wBk Z b L (nI m) lc (nI s2) nm bP bH o2 g2 j2 l0 l1 l2 l3 l4 l5 ++ wPa Z p kk b (nI i2) (sf i2) (nw tk i2 b2) b2 e2 a2 y0 y1 y2 y3 y4 y5) ++ wTk Z kk t (nI (Lt + 1)) kf sf vf) ++ wTp Z t (nI tm) tb))) {i s : Nat} {b0 : Bool} {e a : Int32} {o g j : Nat → Int32} (hi : i ≤ Lt) (hs : s ≤ 400)  : Ct Z l yX3_both cX3_both 3 none (rmK (41 - 4 * d)) [.ref (p 0), .int (nI d)] (((wBk Z b L (nI m) lc (nI s) nm bP bH o g j l0 l1 l2 l3 l4 l5 ++ wPa Z p kk b (nI i) (sf i) (nw tk i b0) b0 e a y0 y1 y2 y3 y4 y5) ++ wTk Z kk t (nI (Lt + 1)) kf sf vf) ++ wTp Z t (nI tm) tb) (fun v w => ∃ i2 b2 e2 a2 s2 o2 g2 j2, bothC tk sf vv (i, b0, e, a, s, o, g, j) = (i2, b2, e2, a2, s2, o2, g2, j2) ∧ i2 ≤ Lt ∧ s2 ≤ 400 ∧ v = none ∧ w = (((wBk Z b L (nI m) lc (nI s2) nm bP bH o2 g2 j2 l0 l1 l2 l3 l4 l5 ++ wPa Z p kk b (nI i2) (sf i2) (nw tk i2 b2) b2 e2 a2 y0 y1 y2 y3 y4 y5) ++ wTk Z kk t (nI (Lt + 1)) kf sf vf) ++ wTp Z t (nI tm) tb)) := by
  refine Ct.ofJ (own := RX3) (nm := "both") (lv0 := [(0, .ref (p 0)), (1, .int (nI d))]) (by decide) rfl rfl (Nat.le_of_ble_eq_true rfl) rfl (fun X hXl C E => ?_)
  subst hXl
  refine J_aload_n C iX3_both_0 rfl rfl ?_
  refine J_iload_n C iX3_both_1 rfl rfl ?_
  refine J_cV (As := [.int (nI d)]) (st := []) (rc2 := (rmK (41 - 4 * d)).cells) (rs2 := (rmK (41 - 4 * d)).slots) C iX3_both_2 lm_X3_199 yc_X3_single yv_X3_single (hv (by omega) (by omega)) (q0 := 24) rfl rfl rfl rfl (rmK_le (by omega) (by decide)) (Nat.le_of_ble_eq_true rfl) rfl rfl ?_
  rintro _ _ ⟨i73, b73, e73, a73, s73, o73, g73, j73, hR73, hli73, hls73, rfl, rfl⟩
  refine J_st ([]) rfl ?_
  refine J_iconst 0 C iX3_both_5 rfl ?_
  refine J_istore_n [(2, .int 0), (0, .ref (p 0)), (1, .int (nI d))] C iX3_both_6 rfl (by decide) rfl ?_
  refine J_lvm [(2, .int 0), (1, .int (nI d)), (0, .ref (p 0))] rfl ?_
  refine J_forI (σ := PS) (fun k q => [(2, .int (nI k)), (1, .int (nI d)), (0, .ref (p 0))]) (fun k q => (((wBk Z b L (nI m) lc (nI q.2.2.2.2.1) nm bP bH q.2.2.2.2.2.1 q.2.2.2.2.2.2.1 q.2.2.2.2.2.2.2 l0 l1 l2 l3 l4 l5 ++ wPa Z p kk b (nI q.1) (sf q.1) (nw tk q.1 q.2.1) q.2.1 q.2.2.1 q.2.2.2.1 y0 y1 y2 y3 y4 y5) ++ wTk Z kk t (nI (Lt + 1)) kf sf vf) ++ wTp Z t (nI tm) tb)) (fun k q => loopD tk sf 20 21 vv (400 - k) q = loopD tk sf 20 21 vv 400 (i73, b73, e73, a73, s73, o73, g73, j73) ∧ q.1 ≤ Lt ∧ q.2.2.2.2.1 ≤ 400) 400 0 (i73, b73, e73, a73, s73, o73, g73, j73) (by omega) ⟨rfl, by omega, by omega⟩ ?_ ?_
  · rintro ⟨i74, b74, e74, a74, s74, o74, g74, j74⟩ ⟨hI, hli74, hls74⟩
    dsimp only at hli74 hls74
    refine J_iload_n C iX3_both_7 rfl rfl ?_
    refine J_sipush 400 C iX3_both_8 rfl ?_
    refine J_icmpge 54 C iX3_both_11 rfl (fun h11 => ?_) (fun h11 => absurd (by decide) h11)
    exact J_vret C E iX3_both_54 ⟨i74, b74, e74, a74, s74, o74, g74, j74, by rw [bothC, hR73, ← hI]; rfl, by omega, by omega, rfl, rfl⟩
  · rintro k ⟨i74, b74, e74, a74, s74, o74, g74, j74⟩ hk0 hk ⟨hI, hli74, hls74⟩ ih
    dsimp only at hli74 hls74
    refine J_iload_n C iX3_both_7 rfl rfl ?_
    refine J_sipush 400 C iX3_both_8 rfl ?_
    refine J_icmpge 54 C iX3_both_11 rfl (fun h11 => absurd h11 (nI_ge (a := k) (b := 400) hk (by decide))) (fun h11 => ?_)
    refine J_aload_n C iX3_both_14 rfl rfl ?_
    refine J_get (.ref (zad Z (nw tk i74 b74))) 24 C iX3_both_15 gf_X3_24 rfl rfl ?_
    refine J_getsK C iX3_both_18 kf_X3_202 ?_
    by_cases hs21 : (nw tk i74 b74) = 20
    · refine J_acmpne 54 C iX3_both_21 rfl (fun h21 => absurd (congrArg (zad Z) hs21) h21) (fun h21 => ?_)
      refine J_aload_n C iX3_both_24 rfl rfl ?_
      refine J_getsK C iX3_both_25 kf_X3_202 ?_
      refine J_cV (As := [.ref (zad Z 20)]) (st := []) (rc2 := (rmK (41 - 4 * d)).cells) (rs2 := (rmK (41 - 4 * d)).slots) C iX3_both_28 lm_X3_85 yc_X3_take yv_X3_take (c_X3_take (k := 20) hLt hkf htk hend (by omega) (by omega) hm (by decide) (by decide) (by decide)) (q0 := 24) rfl rfl rfl rfl (rmK_le (by omega) (by decide)) (Nat.le_of_ble_eq_true rfl) rfl rfl ?_
      rintro _ _ ⟨i75, b75, e75, a75, s75, o75, g75, j75, hR75, hli75, hls75, rfl, rfl⟩
      refine J_st (.long (valT tk vf 20 (i74, b74, e74, a74, s74, o74, g74, j74)) :: []) rfl ?_
      refine J_pop2 C iX3_both_31 rfl ?_
      refine J_aload_n C iX3_both_32 rfl rfl ?_
      refine J_iload_n C iX3_both_33 rfl rfl ?_
      refine J_cV (As := [.int (nI d)]) (st := []) (rc2 := (rmK (41 - 4 * d)).cells) (rs2 := (rmK (41 - 4 * d)).slots) C iX3_both_34 lm_X3_199 yc_X3_single yv_X3_single (hv (by omega) (by omega)) (q0 := 24) rfl rfl rfl rfl (rmK_le (by omega) (by decide)) (Nat.le_of_ble_eq_true rfl) rfl rfl ?_
      rintro _ _ ⟨i76, b76, e76, a76, s76, o76, g76, j76, hR76, hli76, hls76, rfl, rfl⟩
      refine J_st ([]) rfl ?_
      refine J_aload_n C iX3_both_37 rfl rfl ?_
      refine J_get (.ref (b 0)) 24 C iX3_both_38 gf_X3_31 rfl rfl ?_
      refine J_bipush 21 C iX3_both_41 rfl ?_
      refine J_iconst 0 C iX3_both_43 rfl ?_
      refine J_iconst 0 C iX3_both_44 rfl ?_
      refine J_cVb (As := [.int 21, .int 0, .int 0]) (st := []) (rc2 := (rmK (41 - 4 * d)).cells) (rs2 := (rmK (41 - 4 * d)).slots) C iX3_both_45 lm_X3_195 yc_X0_addStep yv_X0_addStep (c_X0_addStep (m := s76) (by omega)) (q0 := 0) rfl rfl rfl [] ((wPa Z p kk b (nI i76) (sf i76) (nw tk i76 b76) b76 e76 a76 y0 y1 y2 y3 y4 y5 ++ wTk Z kk t (nI (Lt + 1)) kf sf vf) ++ wTp Z t (nI tm) tb) rfl rfl (rmK_le (by omega) (by decide)) (Nat.le_of_ble_eq_true rfl) rfl rfl ?_
      rintro _ _ ⟨rfl, rfl⟩
      refine J_st ([]) rfl ?_
      refine J_ws (((wBk Z b L (nI m) lc (nI (inc s76 400)) nm bP bH (updC o76 s76 400 21) (updC g76 s76 400 0) (updC j76 s76 400 0) l0 l1 l2 l3 l4 l5 ++ wPa Z p kk b (nI i76) (sf i76) (nw tk i76 b76) b76 e76 a76 y0 y1 y2 y3 y4 y5) ++ wTk Z kk t (nI (Lt + 1)) kf sf vf) ++ wTp Z t (nI tm) tb) rfl ?_
      have hic77 := inc_le (s := s76) (by omega)
      refine J_iinc ((nI k) + 1) [(2, .int ((nI k) + 1)), (1, .int (nI d)), (0, .ref (p 0))] C iX3_both_48 rfl rfl (by decide) rfl ?_
      rw [show (nI k) + 1 = nI (k + 1) from nI_add _ _]
      refine J_goto 7 C iX3_both_51 rfl ?_
      refine J_lvm [(2, .int (nI (k + 1))), (1, .int (nI d)), (0, .ref (p 0))] rfl ?_
      exact ih (i76, b76, e76, a76, (inc s76 400), updC o76 s76 400 21, updC g76 s76 400 0, updC j76 s76 400 0) ⟨by rw [← hI, show 400 - k = 400 - (k + 1) + 1 by omega, loopD]; rw [if_pos (show nowC tk (i74, b74, e74, a74, s74, o74, g74, j74) = 20 from hs21), hR75, hR76]; first | done | rfl, by omega, by omega⟩
    · refine J_acmpne 54 C iX3_both_21 rfl (fun h21 => ?_) (fun h21 => absurd h21 (fun e => hs21 (zad_inj C (nw_lt htk _ _) (by decide) e)))
      exact J_vret C E iX3_both_54 ⟨i74, b74, e74, a74, s74, o74, g74, j74, by rw [bothC, hR73, ← hI, show 400 - k = 400 - (k + 1) + 1 by omega, loopD]; rw [if_neg (show ¬ nowC tk (i74, b74, e74, a74, s74, o74, g74, j74) = 20 from hs21)], by omega, by omega, rfl, rfl⟩

set_option maxRecDepth 100000 in
set_option maxHeartbeats 4000000 in
theorem c_X3_test {Z : GZ} {l : Launch} {p kk t b L : Nat → Nat} {m Lt tm : Nat} {lc : Int32} {tb : Nat → Int32} {nm : Nat → Int64} {bP bH l0 l1 l2 l3 l4 l5 : Nat → Int32} {kf : Nat → Option Nat} {sf : Nat → Int32} {vf : Nat → Int64} {y0 y1 y2 y3 y4 y5 : Int32} {tk : Nat → Nat} {d : Nat} {vv : PS → PS} (hLt : Lt ≤ 400) (hkf : ∀ i, i ≤ Lt → kf i = some (zad Z (tk i))) (htk : ∀ i, tk i < 43) (hend : ∀ i, i ≤ Lt → tk i ≠ 41 → tk i ≠ 42 → i < Lt) (hm : m ≤ 12) (hd : d ≤ 8) (hv : ∀ {i s : Nat} {b0 : Bool} {e a : Int32} {o g j : Nat → Int32}, i ≤ Lt → s ≤ 400 → Ct Z l yX3_both cX3_both 3 none (rmK (41 - 4 * d)) [.ref (p 0), .int (nI d)] (((wBk Z b L (nI m) lc (nI s) nm bP bH o g j l0 l1 l2 l3 l4 l5 ++ wPa Z p kk b (nI i) (sf i) (nw tk i b0) b0 e a y0 y1 y2 y3 y4 y5) ++ wTk Z kk t (nI (Lt + 1)) kf sf vf) ++ wTp Z t (nI tm) tb) (fun v w => ∃ i2 b2 e2 a2 s2 o2 g2 j2, bothC tk sf vv (i, b0, e, a, s, o, g, j) = (i2, b2, e2, a2, s2, o2, g2, j2) ∧ i2 ≤ Lt ∧ s2 ≤ 400 ∧ v = none ∧ w = (((wBk Z b L (nI m) lc (nI s2) nm bP bH o2 g2 j2 l0 l1 l2 l3 l4 l5 ++ wPa Z p kk b (nI i2) (sf i2) (nw tk i2 b2) b2 e2 a2 y0 y1 y2 y3 y4 y5) ++ wTk Z kk t (nI (Lt + 1)) kf sf vf) ++ wTp Z t (nI tm) tb))) {i s : Nat} {b0 : Bool} {e a : Int32} {o g j : Nat → Int32} (hi : i ≤ Lt) (hs : s ≤ 400)  : Ct Z l yX3_test cX3_test 3 none (rmK (42 - 4 * d)) [.ref (p 0), .int (nI d)] (((wBk Z b L (nI m) lc (nI s) nm bP bH o g j l0 l1 l2 l3 l4 l5 ++ wPa Z p kk b (nI i) (sf i) (nw tk i b0) b0 e a y0 y1 y2 y3 y4 y5) ++ wTk Z kk t (nI (Lt + 1)) kf sf vf) ++ wTp Z t (nI tm) tb) (fun v w => ∃ i2 b2 e2 a2 s2 o2 g2 j2, testC tk sf vv (i, b0, e, a, s, o, g, j) = (i2, b2, e2, a2, s2, o2, g2, j2) ∧ i2 ≤ Lt ∧ s2 ≤ 400 ∧ v = none ∧ w = (((wBk Z b L (nI m) lc (nI s2) nm bP bH o2 g2 j2 l0 l1 l2 l3 l4 l5 ++ wPa Z p kk b (nI i2) (sf i2) (nw tk i2 b2) b2 e2 a2 y0 y1 y2 y3 y4 y5) ++ wTk Z kk t (nI (Lt + 1)) kf sf vf) ++ wTp Z t (nI tm) tb)) := by
  refine Ct.ofJ (own := RX3) (nm := "test") (lv0 := [(0, .ref (p 0)), (1, .int (nI d))]) (by decide) rfl rfl (Nat.le_of_ble_eq_true rfl) rfl (fun X hXl C E => ?_)
  subst hXl
  refine J_aload_n C iX3_test_0 rfl rfl ?_
  refine J_iload_n C iX3_test_1 rfl rfl ?_
  refine J_cV (As := [.int (nI d)]) (st := []) (rc2 := (rmK (42 - 4 * d)).cells) (rs2 := (rmK (42 - 4 * d)).slots) C iX3_test_2 lm_X3_189 yc_X3_both yv_X3_both (hv (by omega) (by omega)) (q0 := 24) rfl rfl rfl rfl (rmK_le (by omega) (by decide)) (Nat.le_of_ble_eq_true rfl) rfl rfl ?_
  rintro _ _ ⟨i78, b78, e78, a78, s78, o78, g78, j78, hR78, hli78, hls78, rfl, rfl⟩
  refine J_st ([]) rfl ?_
  refine J_iconst 0 C iX3_test_5 rfl ?_
  refine J_istore_n [(2, .int 0), (0, .ref (p 0)), (1, .int (nI d))] C iX3_test_6 rfl (by decide) rfl ?_
  refine J_lvm [(2, .int 0), (1, .int (nI d)), (0, .ref (p 0))] rfl ?_
  refine J_forI (σ := PS) (fun k q => [(2, .int (nI k)), (1, .int (nI d)), (0, .ref (p 0))]) (fun k q => (((wBk Z b L (nI m) lc (nI q.2.2.2.2.1) nm bP bH q.2.2.2.2.2.1 q.2.2.2.2.2.2.1 q.2.2.2.2.2.2.2 l0 l1 l2 l3 l4 l5 ++ wPa Z p kk b (nI q.1) (sf q.1) (nw tk q.1 q.2.1) q.2.1 q.2.2.1 q.2.2.2.1 y0 y1 y2 y3 y4 y5) ++ wTk Z kk t (nI (Lt + 1)) kf sf vf) ++ wTp Z t (nI tm) tb)) (fun k q => loopD tk sf 21 22 (bothC tk sf vv) (400 - k) q = loopD tk sf 21 22 (bothC tk sf vv) 400 (i78, b78, e78, a78, s78, o78, g78, j78) ∧ q.1 ≤ Lt ∧ q.2.2.2.2.1 ≤ 400) 400 0 (i78, b78, e78, a78, s78, o78, g78, j78) (by omega) ⟨rfl, by omega, by omega⟩ ?_ ?_
  · rintro ⟨i79, b79, e79, a79, s79, o79, g79, j79⟩ ⟨hI, hli79, hls79⟩
    dsimp only at hli79 hls79
    refine J_iload_n C iX3_test_7 rfl rfl ?_
    refine J_sipush 400 C iX3_test_8 rfl ?_
    refine J_icmpge 54 C iX3_test_11 rfl (fun h11 => ?_) (fun h11 => absurd (by decide) h11)
    exact J_vret C E iX3_test_54 ⟨i79, b79, e79, a79, s79, o79, g79, j79, by rw [testC, hR78, ← hI]; rfl, by omega, by omega, rfl, rfl⟩
  · rintro k ⟨i79, b79, e79, a79, s79, o79, g79, j79⟩ hk0 hk ⟨hI, hli79, hls79⟩ ih
    dsimp only at hli79 hls79
    refine J_iload_n C iX3_test_7 rfl rfl ?_
    refine J_sipush 400 C iX3_test_8 rfl ?_
    refine J_icmpge 54 C iX3_test_11 rfl (fun h11 => absurd h11 (nI_ge (a := k) (b := 400) hk (by decide))) (fun h11 => ?_)
    refine J_aload_n C iX3_test_14 rfl rfl ?_
    refine J_get (.ref (zad Z (nw tk i79 b79))) 24 C iX3_test_15 gf_X3_24 rfl rfl ?_
    refine J_getsK C iX3_test_18 kf_X3_192 ?_
    by_cases hs21 : (nw tk i79 b79) = 21
    · refine J_acmpne 54 C iX3_test_21 rfl (fun h21 => absurd (congrArg (zad Z) hs21) h21) (fun h21 => ?_)
      refine J_aload_n C iX3_test_24 rfl rfl ?_
      refine J_getsK C iX3_test_25 kf_X3_192 ?_
      refine J_cV (As := [.ref (zad Z 21)]) (st := []) (rc2 := (rmK (42 - 4 * d)).cells) (rs2 := (rmK (42 - 4 * d)).slots) C iX3_test_28 lm_X3_85 yc_X3_take yv_X3_take (c_X3_take (k := 21) hLt hkf htk hend (by omega) (by omega) hm (by decide) (by decide) (by decide)) (q0 := 24) rfl rfl rfl rfl (rmK_le (by omega) (by decide)) (Nat.le_of_ble_eq_true rfl) rfl rfl ?_
      rintro _ _ ⟨i80, b80, e80, a80, s80, o80, g80, j80, hR80, hli80, hls80, rfl, rfl⟩
      refine J_st (.long (valT tk vf 21 (i79, b79, e79, a79, s79, o79, g79, j79)) :: []) rfl ?_
      refine J_pop2 C iX3_test_31 rfl ?_
      refine J_aload_n C iX3_test_32 rfl rfl ?_
      refine J_iload_n C iX3_test_33 rfl rfl ?_
      refine J_cV (As := [.int (nI d)]) (st := []) (rc2 := (rmK (42 - 4 * d)).cells) (rs2 := (rmK (42 - 4 * d)).slots) C iX3_test_34 lm_X3_189 yc_X3_both yv_X3_both (hv (by omega) (by omega)) (q0 := 24) rfl rfl rfl rfl (rmK_le (by omega) (by decide)) (Nat.le_of_ble_eq_true rfl) rfl rfl ?_
      rintro _ _ ⟨i81, b81, e81, a81, s81, o81, g81, j81, hR81, hli81, hls81, rfl, rfl⟩
      refine J_st ([]) rfl ?_
      refine J_aload_n C iX3_test_37 rfl rfl ?_
      refine J_get (.ref (b 0)) 24 C iX3_test_38 gf_X3_31 rfl rfl ?_
      refine J_bipush 22 C iX3_test_41 rfl ?_
      refine J_iconst 0 C iX3_test_43 rfl ?_
      refine J_iconst 0 C iX3_test_44 rfl ?_
      refine J_cVb (As := [.int 22, .int 0, .int 0]) (st := []) (rc2 := (rmK (42 - 4 * d)).cells) (rs2 := (rmK (42 - 4 * d)).slots) C iX3_test_45 lm_X3_195 yc_X0_addStep yv_X0_addStep (c_X0_addStep (m := s81) (by omega)) (q0 := 0) rfl rfl rfl [] ((wPa Z p kk b (nI i81) (sf i81) (nw tk i81 b81) b81 e81 a81 y0 y1 y2 y3 y4 y5 ++ wTk Z kk t (nI (Lt + 1)) kf sf vf) ++ wTp Z t (nI tm) tb) rfl rfl (rmK_le (by omega) (by decide)) (Nat.le_of_ble_eq_true rfl) rfl rfl ?_
      rintro _ _ ⟨rfl, rfl⟩
      refine J_st ([]) rfl ?_
      refine J_ws (((wBk Z b L (nI m) lc (nI (inc s81 400)) nm bP bH (updC o81 s81 400 22) (updC g81 s81 400 0) (updC j81 s81 400 0) l0 l1 l2 l3 l4 l5 ++ wPa Z p kk b (nI i81) (sf i81) (nw tk i81 b81) b81 e81 a81 y0 y1 y2 y3 y4 y5) ++ wTk Z kk t (nI (Lt + 1)) kf sf vf) ++ wTp Z t (nI tm) tb) rfl ?_
      have hic82 := inc_le (s := s81) (by omega)
      refine J_iinc ((nI k) + 1) [(2, .int ((nI k) + 1)), (1, .int (nI d)), (0, .ref (p 0))] C iX3_test_48 rfl rfl (by decide) rfl ?_
      rw [show (nI k) + 1 = nI (k + 1) from nI_add _ _]
      refine J_goto 7 C iX3_test_51 rfl ?_
      refine J_lvm [(2, .int (nI (k + 1))), (1, .int (nI d)), (0, .ref (p 0))] rfl ?_
      exact ih (i81, b81, e81, a81, (inc s81 400), updC o81 s81 400 22, updC g81 s81 400 0, updC j81 s81 400 0) ⟨by rw [← hI, show 400 - k = 400 - (k + 1) + 1 by omega, loopD]; rw [if_pos (show nowC tk (i79, b79, e79, a79, s79, o79, g79, j79) = 21 from hs21), hR80, hR81]; first | done | rfl, by omega, by omega⟩
    · refine J_acmpne 54 C iX3_test_21 rfl (fun h21 => ?_) (fun h21 => absurd h21 (fun e => hs21 (zad_inj C (nw_lt htk _ _) (by decide) e)))
      exact J_vret C E iX3_test_54 ⟨i79, b79, e79, a79, s79, o79, g79, j79, by rw [testC, hR78, ← hI, show 400 - k = 400 - (k + 1) + 1 by omega, loopD]; rw [if_neg (show ¬ nowC tk (i79, b79, e79, a79, s79, o79, g79, j79) = 21 from hs21)], by omega, by omega, rfl, rfl⟩

set_option maxRecDepth 100000 in
set_option maxHeartbeats 4000000 in
theorem c_X3_single {Z : GZ} {l : Launch} {p kk t b L : Nat → Nat} {m Lt tm : Nat} {lc : Int32} {tb : Nat → Int32} {nm : Nat → Int64} {bP bH l0 l1 l2 l3 l4 l5 : Nat → Int32} {kf : Nat → Option Nat} {sf : Nat → Int32} {vf : Nat → Int64} {y0 y1 y2 y3 y4 y5 : Int32} {tk : Nat → Nat} {d : Nat} {vv uu : PS → PS} (hLt : Lt ≤ 400) (hkf : ∀ i, i ≤ Lt → kf i = some (zad Z (tk i))) (htk : ∀ i, tk i < 43) (hend : ∀ i, i ≤ Lt → tk i ≠ 41 → tk i ≠ 42 → i < Lt) (hm : m ≤ 12) (hd : d ≤ 8) (hu : d < 8 → ∀ {i s : Nat} {b0 : Bool} {e a : Int32} {o g j : Nat → Int32}, i ≤ Lt → s ≤ 400 → Ct Z l yX3_single cX3_single 3 none (rmK (36 - 4 * d)) [.ref (p 0), .int (nI (d + 1))] (((wBk Z b L (nI m) lc (nI s) nm bP bH o g j l0 l1 l2 l3 l4 l5 ++ wPa Z p kk b (nI i) (sf i) (nw tk i b0) b0 e a y0 y1 y2 y3 y4 y5) ++ wTk Z kk t (nI (Lt + 1)) kf sf vf) ++ wTp Z t (nI tm) tb) (fun v w => ∃ i2 b2 e2 a2 s2 o2 g2 j2, uu (i, b0, e, a, s, o, g, j) = (i2, b2, e2, a2, s2, o2, g2, j2) ∧ i2 ≤ Lt ∧ s2 ≤ 400 ∧ v = none ∧ w = (((wBk Z b L (nI m) lc (nI s2) nm bP bH o2 g2 j2 l0 l1 l2 l3 l4 l5 ++ wPa Z p kk b (nI i2) (sf i2) (nw tk i2 b2) b2 e2 a2 y0 y1 y2 y3 y4 y5) ++ wTk Z kk t (nI (Lt + 1)) kf sf vf) ++ wTp Z t (nI tm) tb))) (ht : d < 8 → ∀ {i s : Nat} {b0 : Bool} {e a : Int32} {o g j : Nat → Int32}, i ≤ Lt → s ≤ 400 → Ct Z l yX3_test cX3_test 3 none (rmK (38 - 4 * d)) [.ref (p 0), .int (nI (d + 1))] (((wBk Z b L (nI m) lc (nI s) nm bP bH o g j l0 l1 l2 l3 l4 l5 ++ wPa Z p kk b (nI i) (sf i) (nw tk i b0) b0 e a y0 y1 y2 y3 y4 y5) ++ wTk Z kk t (nI (Lt + 1)) kf sf vf) ++ wTp Z t (nI tm) tb) (fun v w => ∃ i2 b2 e2 a2 s2 o2 g2 j2, testC tk sf uu (i, b0, e, a, s, o, g, j) = (i2, b2, e2, a2, s2, o2, g2, j2) ∧ i2 ≤ Lt ∧ s2 ≤ 400 ∧ v = none ∧ w = (((wBk Z b L (nI m) lc (nI s2) nm bP bH o2 g2 j2 l0 l1 l2 l3 l4 l5 ++ wPa Z p kk b (nI i2) (sf i2) (nw tk i2 b2) b2 e2 a2 y0 y1 y2 y3 y4 y5) ++ wTk Z kk t (nI (Lt + 1)) kf sf vf) ++ wTp Z t (nI tm) tb))) (hsum : ∀ {i s : Nat} {b0 : Bool} {e a : Int32} {o g j : Nat → Int32}, i ≤ Lt → s ≤ 400 → Ct Z l yX3_sum cX3_sum 4 none (rmK (38 - 4 * d)) [.ref (p 0), .int (nI d)] (((wBk Z b L (nI m) lc (nI s) nm bP bH o g j l0 l1 l2 l3 l4 l5 ++ wPa Z p kk b (nI i) (sf i) (nw tk i b0) b0 e a y0 y1 y2 y3 y4 y5) ++ wTk Z kk t (nI (Lt + 1)) kf sf vf) ++ wTp Z t (nI tm) tb) (fun v w => ∃ i2 b2 e2 a2 s2 o2 g2 j2, sumC tk sf vv (i, b0, e, a, s, o, g, j) = (i2, b2, e2, a2, s2, o2, g2, j2) ∧ i2 ≤ Lt ∧ s2 ≤ 400 ∧ v = none ∧ w = (((wBk Z b L (nI m) lc (nI s2) nm bP bH o2 g2 j2 l0 l1 l2 l3 l4 l5 ++ wPa Z p kk b (nI i2) (sf i2) (nw tk i2 b2) b2 e2 a2 y0 y1 y2 y3 y4 y5) ++ wTk Z kk t (nI (Lt + 1)) kf sf vf) ++ wTp Z t (nI tm) tb))) {i s : Nat} {b0 : Bool} {e a : Int32} {o g j : Nat → Int32} (hi : i ≤ Lt) (hs : s ≤ 400)  : Ct Z l yX3_single cX3_single 3 none (rmK (40 - 4 * d)) [.ref (p 0), .int (nI d)] (((wBk Z b L (nI m) lc (nI s) nm bP bH o g j l0 l1 l2 l3 l4 l5 ++ wPa Z p kk b (nI i) (sf i) (nw tk i b0) b0 e a y0 y1 y2 y3 y4 y5) ++ wTk Z kk t (nI (Lt + 1)) kf sf vf) ++ wTp Z t (nI tm) tb) (fun v w => ∃ i2 b2 e2 a2 s2 o2 g2 j2, sglB tk sf vf nm m d vv uu (i, b0, e, a, s, o, g, j) = (i2, b2, e2, a2, s2, o2, g2, j2) ∧ i2 ≤ Lt ∧ s2 ≤ 400 ∧ v = none ∧ w = (((wBk Z b L (nI m) lc (nI s2) nm bP bH o2 g2 j2 l0 l1 l2 l3 l4 l5 ++ wPa Z p kk b (nI i2) (sf i2) (nw tk i2 b2) b2 e2 a2 y0 y1 y2 y3 y4 y5) ++ wTk Z kk t (nI (Lt + 1)) kf sf vf) ++ wTp Z t (nI tm) tb)) := by
  refine Ct.ofJ (own := RX3) (nm := "single") (lv0 := [(0, .ref (p 0)), (1, .int (nI d))]) (by decide) rfl rfl (Nat.le_of_ble_eq_true rfl) rfl (fun X hXl C E => ?_)
  subst hXl
  refine J_aload_n C iX3_single_0 rfl rfl ?_
  refine J_get (.ref (zad Z (nw tk i b0))) 24 C iX3_single_1 gf_X3_24 rfl rfl ?_
  refine J_getsK C iX3_single_4 kf_X3_205 ?_
  by_cases hs7 : (nw tk i b0) = 19
  · refine J_acmpne 42 C iX3_single_7 rfl (fun h7 => absurd (congrArg (zad Z) hs7) h7) (fun h7 => ?_)
    refine J_aload_n C iX3_single_10 rfl rfl ?_
    refine J_getsK C iX3_single_11 kf_X3_205 ?_
    refine J_iload_n C iX3_single_14 rfl rfl ?_
    refine J_cV (As := [.ref (zad Z 19), .int (nI d)]) (st := []) (rc2 := (rmK (40 - 4 * d)).cells) (rs2 := (rmK (40 - 4 * d)).slots) C iX3_single_15 lm_X3_208 yc_X3_goesDeeper yv_X3_goesDeeper (c_X3_goesDeeper (k := 19) (d := d) hLt hkf htk hend (by omega) (by omega) hm (by decide) (by decide) (by decide) (by omega)) (q0 := 24) rfl rfl rfl rfl (rmK_le (by omega) (by decide)) (Nat.le_of_ble_eq_true rfl) rfl rfl ?_
    rintro _ _ ⟨i83, b83, e83, a83, s83, o83, g83, j83, hR83, hli83, hls83, rfl, rfl⟩
    refine J_st (.int (b2i (!b83)) :: []) rfl ?_
    cases b83
    · refine J_ifeqb 203 C iX3_single_18 rfl (fun h18 => absurd (h18.symm.trans rfl) (by decide)) (fun h18 => ?_)
      refine J_aload_n C iX3_single_21 rfl rfl ?_
      refine J_iload_n C iX3_single_22 rfl rfl ?_
      refine J_iconst 1 C iX3_single_23 rfl ?_
      refine J_iadd C iX3_single_24 ?_
      rw [show (nI d) + 1 = nI (d + 1) from nI_add _ _]
      refine J_cV (As := [.int (nI (d + 1))]) (st := []) (rc2 := (rmK (40 - 4 * d)).cells) (rs2 := (rmK (40 - 4 * d)).slots) C iX3_single_25 lm_X3_199 yc_X3_single yv_X3_single (hu (deep_lt hR83) (by omega) (by omega)) (q0 := 24) rfl rfl rfl rfl (rmK_le (by omega) (by decide)) (Nat.le_of_ble_eq_true rfl) rfl rfl ?_
      rintro _ _ ⟨i84, b84, e84, a84, s84, o84, g84, j84, hR84, hli84, hls84, rfl, rfl⟩
      refine J_st ([]) rfl ?_
      refine J_aload_n C iX3_single_28 rfl rfl ?_
      refine J_get (.ref (b 0)) 24 C iX3_single_29 gf_X3_31 rfl rfl ?_
      refine J_bipush 9 C iX3_single_32 rfl ?_
      refine J_iconst 0 C iX3_single_34 rfl ?_
      refine J_iconst 0 C iX3_single_35 rfl ?_
      refine J_cVb (As := [.int 9, .int 0, .int 0]) (st := []) (rc2 := (rmK (40 - 4 * d)).cells) (rs2 := (rmK (40 - 4 * d)).slots) C iX3_single_36 lm_X3_195 yc_X0_addStep yv_X0_addStep (c_X0_addStep (m := s84) (by omega)) (q0 := 0) rfl rfl rfl [] ((wPa Z p kk b (nI i84) (sf i84) (nw tk i84 b84) b84 e84 a84 y0 y1 y2 y3 y4 y5 ++ wTk Z kk t (nI (Lt + 1)) kf sf vf) ++ wTp Z t (nI tm) tb) rfl rfl (rmK_le (by omega) (by decide)) (Nat.le_of_ble_eq_true rfl) rfl rfl ?_
      rintro _ _ ⟨rfl, rfl⟩
      refine J_st ([]) rfl ?_
      refine J_ws (((wBk Z b L (nI m) lc (nI (inc s84 400)) nm bP bH (updC o84 s84 400 9) (updC g84 s84 400 0) (updC j84 s84 400 0) l0 l1 l2 l3 l4 l5 ++ wPa Z p kk b (nI i84) (sf i84) (nw tk i84 b84) b84 e84 a84 y0 y1 y2 y3 y4 y5) ++ wTk Z kk t (nI (Lt + 1)) kf sf vf) ++ wTp Z t (nI tm) tb) rfl ?_
      have hic85 := inc_le (s := s84) (by omega)
      refine J_goto 203 C iX3_single_39 rfl ?_
      exact J_vret C E iX3_single_203 ⟨i84, b84, e84, a84, (inc s84 400), updC o84 s84 400 9, updC g84 s84 400 0, updC j84 s84 400 0, by rw [sglB, if_pos (show nowC tk (i, b0, e, a, s, o, g, j) = 19 from hs7)]; rw [hR83, if_neg (show ¬ brkC (i83, false, e83, a83, s83, o83, g83, j83) = true from Bool.false_ne_true), hR84]; first | done | rfl, by omega, by omega, rfl, rfl⟩
    · refine J_ifeqb 203 C iX3_single_18 rfl (fun h18 => ?_) (fun h18 => absurd (h18.symm.trans rfl) (by decide))
      exact J_vret C E iX3_single_203 ⟨i83, true, e83, a83, s83, o83, g83, j83, by rw [sglB, if_pos (show nowC tk (i, b0, e, a, s, o, g, j) = 19 from hs7)]; rw [hR83, if_pos (show brkC (i83, true, e83, a83, s83, o83, g83, j83) = true from rfl)]; first | done | rfl, by omega, by omega, rfl, rfl⟩
  · refine J_acmpne 42 C iX3_single_7 rfl (fun h7 => ?_) (fun h7 => absurd h7 (fun e => hs7 (zad_inj C (nw_lt htk _ _) (by decide) e)))
    refine J_aload_n C iX3_single_42 rfl rfl ?_
    refine J_get (.ref (zad Z (nw tk i b0))) 24 C iX3_single_43 gf_X3_24 rfl rfl ?_
    refine J_getsK C iX3_single_46 kf_X3_212 ?_
    by_cases hs49 : (nw tk i b0) = 26
    · refine J_acmpne 81 C iX3_single_49 rfl (fun h49 => absurd (congrArg (zad Z) hs49) h49) (fun h49 => ?_)
      refine J_aload_n C iX3_single_52 rfl rfl ?_
      refine J_getsK C iX3_single_53 kf_X3_212 ?_
      refine J_iload_n C iX3_single_56 rfl rfl ?_
      refine J_cV (As := [.ref (zad Z 26), .int (nI d)]) (st := []) (rc2 := (rmK (40 - 4 * d)).cells) (rs2 := (rmK (40 - 4 * d)).slots) C iX3_single_57 lm_X3_208 yc_X3_goesDeeper yv_X3_goesDeeper (c_X3_goesDeeper (k := 26) (d := d) hLt hkf htk hend (by omega) (by omega) hm (by decide) (by decide) (by decide) (by omega)) (q0 := 24) rfl rfl rfl rfl (rmK_le (by omega) (by decide)) (Nat.le_of_ble_eq_true rfl) rfl rfl ?_
      rintro _ _ ⟨i86, b86, e86, a86, s86, o86, g86, j86, hR86, hli86, hls86, rfl, rfl⟩
      refine J_st (.int (b2i (!b86)) :: []) rfl ?_
      cases b86
      · refine J_ifeqb 203 C iX3_single_60 rfl (fun h60 => absurd (h60.symm.trans rfl) (by decide)) (fun h60 => ?_)
        refine J_aload_n C iX3_single_63 rfl rfl ?_
        refine J_iload_n C iX3_single_64 rfl rfl ?_
        refine J_iconst 1 C iX3_single_65 rfl ?_
        refine J_iadd C iX3_single_66 ?_
        rw [show (nI d) + 1 = nI (d + 1) from nI_add _ _]
        refine J_cV (As := [.int (nI (d + 1))]) (st := []) (rc2 := (rmK (40 - 4 * d)).cells) (rs2 := (rmK (40 - 4 * d)).slots) C iX3_single_67 lm_X3_142 yc_X3_test yv_X3_test (ht (deep_lt hR86) (by omega) (by omega)) (q0 := 24) rfl rfl rfl rfl (rmK_le (by omega) (by decide)) (Nat.le_of_ble_eq_true rfl) rfl rfl ?_
        rintro _ _ ⟨i87, b87, e87, a87, s87, o87, g87, j87, hR87, hli87, hls87, rfl, rfl⟩
        refine J_st ([]) rfl ?_
        refine J_aload_n C iX3_single_70 rfl rfl ?_
        refine J_getsK C iX3_single_71 kf_X3_215 ?_
        refine J_cV (As := [.ref (zad Z 27)]) (st := []) (rc2 := (rmK (40 - 4 * d)).cells) (rs2 := (rmK (40 - 4 * d)).slots) C iX3_single_74 lm_X3_85 yc_X3_take yv_X3_take (c_X3_take (k := 27) hLt hkf htk hend (by omega) (by omega) hm (by decide) (by decide) (by decide)) (q0 := 24) rfl rfl rfl rfl (rmK_le (by omega) (by decide)) (Nat.le_of_ble_eq_true rfl) rfl rfl ?_
        rintro _ _ ⟨i88, b88, e88, a88, s88, o88, g88, j88, hR88, hli88, hls88, rfl, rfl⟩
        refine J_st (.long (valT tk vf 27 (i87, b87, e87, a87, s87, o87, g87, j87)) :: []) rfl ?_
        refine J_pop2 C iX3_single_77 rfl ?_
        refine J_goto 203 C iX3_single_78 rfl ?_
        exact J_vret C E iX3_single_203 ⟨i88, b88, e88, a88, s88, o88, g88, j88, by rw [sglB, if_neg (show ¬ nowC tk (i, b0, e, a, s, o, g, j) = 19 from hs7), if_pos (show nowC tk (i, b0, e, a, s, o, g, j) = 26 from hs49)]; rw [hR86, if_neg (show ¬ brkC (i86, false, e86, a86, s86, o86, g86, j86) = true from Bool.false_ne_true), hR87, hR88]; first | done | rfl, by omega, by omega, rfl, rfl⟩
      · refine J_ifeqb 203 C iX3_single_60 rfl (fun h60 => ?_) (fun h60 => absurd (h60.symm.trans rfl) (by decide))
        exact J_vret C E iX3_single_203 ⟨i86, true, e86, a86, s86, o86, g86, j86, by rw [sglB, if_neg (show ¬ nowC tk (i, b0, e, a, s, o, g, j) = 19 from hs7), if_pos (show nowC tk (i, b0, e, a, s, o, g, j) = 26 from hs49)]; rw [hR86, if_pos (show brkC (i86, true, e86, a86, s86, o86, g86, j86) = true from rfl)]; first | done | rfl, by omega, by omega, rfl, rfl⟩
    · refine J_acmpne 81 C iX3_single_49 rfl (fun h49 => ?_) (fun h49 => absurd h49 (fun e => hs49 (zad_inj C (nw_lt htk _ _) (by decide) e)))
      refine J_aload_n C iX3_single_81 rfl rfl ?_
      refine J_get (.ref (zad Z (nw tk i b0))) 24 C iX3_single_82 gf_X3_24 rfl rfl ?_
      refine J_getsK C iX3_single_85 kf_X3_218 ?_
      by_cases hs88 : (nw tk i b0) = 17
      · refine J_acmpne 121 C iX3_single_88 rfl (fun h88 => absurd (congrArg (zad Z) hs88) h88) (fun h88 => ?_)
        refine J_aload_n C iX3_single_91 rfl rfl ?_
        refine J_getsK C iX3_single_92 kf_X3_218 ?_
        refine J_cV (As := [.ref (zad Z 17)]) (st := []) (rc2 := (rmK (40 - 4 * d)).cells) (rs2 := (rmK (40 - 4 * d)).slots) C iX3_single_95 lm_X3_85 yc_X3_take yv_X3_take (c_X3_take (k := 17) hLt hkf htk hend (by omega) (by omega) hm (by decide) (by decide) (by decide)) (q0 := 24) rfl rfl rfl rfl (rmK_le (by omega) (by decide)) (Nat.le_of_ble_eq_true rfl) rfl rfl ?_
        rintro _ _ ⟨i89, b89, e89, a89, s89, o89, g89, j89, hR89, hli89, hls89, rfl, rfl⟩
        refine J_st (.long (valT tk vf 17 (i, b0, e, a, s, o, g, j)) :: []) rfl ?_
        refine J_pop2 C iX3_single_98 rfl ?_
        refine J_aload_n C iX3_single_99 rfl rfl ?_
        refine J_cV (As := []) (st := []) (rc2 := (rmK (40 - 4 * d)).cells) (rs2 := (rmK (40 - 4 * d)).slots) C iX3_single_100 lm_X3_164 yc_X3_knownHouse yv_X3_knownHouse (c_X3_knownHouse hLt hkf htk hend (by omega) (by omega) hm) (q0 := 24) rfl rfl rfl rfl (rmK_le (by omega) (by decide)) (Nat.le_of_ble_eq_true rfl) rfl rfl ?_
        rintro _ _ ⟨i90, b90, e90, a90, s90, o90, g90, j90, hR90, hli90, hls90, rfl, rfl⟩
        refine J_st (.int (hseC tk vf nm m (i89, b89, e89, a89, s89, o89, g89, j89)) :: []) rfl ?_
        refine J_istore_n [(2, .int (hseC tk vf nm m (i89, b89, e89, a89, s89, o89, g89, j89))), (0, .ref (p 0)), (1, .int (nI d))] C iX3_single_103 rfl (by decide) rfl ?_
        refine J_aload_n C iX3_single_104 rfl rfl ?_
        refine J_get (.ref (b 0)) 24 C iX3_single_105 gf_X3_31 rfl rfl ?_
        refine J_bipush 6 C iX3_single_108 rfl ?_
        refine J_iload_n C iX3_single_110 rfl rfl ?_
        refine J_aload_n C iX3_single_111 rfl rfl ?_
        refine J_cV (As := []) (st := .int (hseC tk vf nm m (i89, b89, e89, a89, s89, o89, g89, j89)) :: .int 6 :: .ref (b 0) :: []) (rc2 := (rmK (40 - 4 * d)).cells) (rs2 := (rmK (40 - 4 * d)).slots) C iX3_single_112 lm_X3_164 yc_X3_knownHouse yv_X3_knownHouse (c_X3_knownHouse hLt hkf htk hend (by omega) (by omega) hm) (q0 := 24) rfl rfl rfl rfl (rmK_le (by omega) (by decide)) (Nat.le_of_ble_eq_true rfl) rfl rfl ?_
        rintro _ _ ⟨i91, b91, e91, a91, s91, o91, g91, j91, hR91, hli91, hls91, rfl, rfl⟩
        refine J_st (.int (hseC tk vf nm m (i90, b90, e90, a90, s90, o90, g90, j90)) :: .int (hseC tk vf nm m (i89, b89, e89, a89, s89, o89, g89, j89)) :: .int 6 :: .ref (b 0) :: []) rfl ?_
        refine J_cVb (As := [.int 6, .int (hseC tk vf nm m (i89, b89, e89, a89, s89, o89, g89, j89)), .int (hseC tk vf nm m (i90, b90, e90, a90, s90, o90, g90, j90))]) (st := []) (rc2 := (rmK (40 - 4 * d)).cells) (rs2 := (rmK (40 - 4 * d)).slots) C iX3_single_115 lm_X3_195 yc_X0_addStep yv_X0_addStep (c_X0_addStep (m := s91) (by omega)) (q0 := 0) rfl rfl rfl [] ((wPa Z p kk b (nI i91) (sf i91) (nw tk i91 b91) b91 e91 a91 y0 y1 y2 y3 y4 y5 ++ wTk Z kk t (nI (Lt + 1)) kf sf vf) ++ wTp Z t (nI tm) tb) rfl rfl (rmK_le (by omega) (by decide)) (Nat.le_of_ble_eq_true rfl) rfl rfl ?_
        rintro _ _ ⟨rfl, rfl⟩
        refine J_st ([]) rfl ?_
        refine J_ws (((wBk Z b L (nI m) lc (nI (inc s91 400)) nm bP bH (updC o91 s91 400 6) (updC g91 s91 400 (hseC tk vf nm m (i89, b89, e89, a89, s89, o89, g89, j89))) (updC j91 s91 400 (hseC tk vf nm m (i90, b90, e90, a90, s90, o90, g90, j90))) l0 l1 l2 l3 l4 l5 ++ wPa Z p kk b (nI i91) (sf i91) (nw tk i91 b91) b91 e91 a91 y0 y1 y2 y3 y4 y5) ++ wTk Z kk t (nI (Lt + 1)) kf sf vf) ++ wTp Z t (nI tm) tb) rfl ?_
        have hic92 := inc_le (s := s91) (by omega)
        refine J_goto 203 C iX3_single_118 rfl ?_
        exact J_vret C E iX3_single_203 ⟨i91, b91, e91, a91, (inc s91 400), updC o91 s91 400 6, updC g91 s91 400 (hseC tk vf nm m (i89, b89, e89, a89, s89, o89, g89, j89)), updC j91 s91 400 (hseC tk vf nm m (i90, b90, e90, a90, s90, o90, g90, j90)), by rw [sglB, if_neg (show ¬ nowC tk (i, b0, e, a, s, o, g, j) = 19 from hs7), if_neg (show ¬ nowC tk (i, b0, e, a, s, o, g, j) = 26 from hs49), if_pos (show nowC tk (i, b0, e, a, s, o, g, j) = 17 from hs88)]; rw [hR89, hR90, hR91]; first | done | rfl, by omega, by omega, rfl, rfl⟩
      · refine J_acmpne 121 C iX3_single_88 rfl (fun h88 => ?_) (fun h88 => absurd h88 (fun e => hs88 (zad_inj C (nw_lt htk _ _) (by decide) e)))
        refine J_aload_n C iX3_single_121 rfl rfl ?_
        refine J_get (.ref (zad Z (nw tk i b0))) 24 C iX3_single_122 gf_X3_24 rfl rfl ?_
        refine J_getsK C iX3_single_125 kf_X3_221 ?_
        by_cases hs128 : (nw tk i b0) = 18
        · refine J_acmpne 156 C iX3_single_128 rfl (fun h128 => absurd (congrArg (zad Z) hs128) h128) (fun h128 => ?_)
          refine J_aload_n C iX3_single_131 rfl rfl ?_
          refine J_getsK C iX3_single_132 kf_X3_221 ?_
          refine J_cV (As := [.ref (zad Z 18)]) (st := []) (rc2 := (rmK (40 - 4 * d)).cells) (rs2 := (rmK (40 - 4 * d)).slots) C iX3_single_135 lm_X3_85 yc_X3_take yv_X3_take (c_X3_take (k := 18) hLt hkf htk hend (by omega) (by omega) hm (by decide) (by decide) (by decide)) (q0 := 24) rfl rfl rfl rfl (rmK_le (by omega) (by decide)) (Nat.le_of_ble_eq_true rfl) rfl rfl ?_
          rintro _ _ ⟨i93, b93, e93, a93, s93, o93, g93, j93, hR93, hli93, hls93, rfl, rfl⟩
          refine J_st (.long (valT tk vf 18 (i, b0, e, a, s, o, g, j)) :: []) rfl ?_
          refine J_pop2 C iX3_single_138 rfl ?_
          refine J_aload_n C iX3_single_139 rfl rfl ?_
          refine J_get (.ref (b 0)) 24 C iX3_single_140 gf_X3_31 rfl rfl ?_
          refine J_bipush 7 C iX3_single_143 rfl ?_
          refine J_aload_n C iX3_single_145 rfl rfl ?_
          refine J_cV (As := []) (st := .int 7 :: .ref (b 0) :: []) (rc2 := (rmK (40 - 4 * d)).cells) (rs2 := (rmK (40 - 4 * d)).slots) C iX3_single_146 lm_X3_164 yc_X3_knownHouse yv_X3_knownHouse (c_X3_knownHouse hLt hkf htk hend (by omega) (by omega) hm) (q0 := 24) rfl rfl rfl rfl (rmK_le (by omega) (by decide)) (Nat.le_of_ble_eq_true rfl) rfl rfl ?_
          rintro _ _ ⟨i94, b94, e94, a94, s94, o94, g94, j94, hR94, hli94, hls94, rfl, rfl⟩
          refine J_st (.int (hseC tk vf nm m (i93, b93, e93, a93, s93, o93, g93, j93)) :: .int 7 :: .ref (b 0) :: []) rfl ?_
          refine J_iconst 0 C iX3_single_149 rfl ?_
          refine J_cVb (As := [.int 7, .int (hseC tk vf nm m (i93, b93, e93, a93, s93, o93, g93, j93)), .int 0]) (st := []) (rc2 := (rmK (40 - 4 * d)).cells) (rs2 := (rmK (40 - 4 * d)).slots) C iX3_single_150 lm_X3_195 yc_X0_addStep yv_X0_addStep (c_X0_addStep (m := s94) (by omega)) (q0 := 0) rfl rfl rfl [] ((wPa Z p kk b (nI i94) (sf i94) (nw tk i94 b94) b94 e94 a94 y0 y1 y2 y3 y4 y5 ++ wTk Z kk t (nI (Lt + 1)) kf sf vf) ++ wTp Z t (nI tm) tb) rfl rfl (rmK_le (by omega) (by decide)) (Nat.le_of_ble_eq_true rfl) rfl rfl ?_
          rintro _ _ ⟨rfl, rfl⟩
          refine J_st ([]) rfl ?_
          refine J_ws (((wBk Z b L (nI m) lc (nI (inc s94 400)) nm bP bH (updC o94 s94 400 7) (updC g94 s94 400 (hseC tk vf nm m (i93, b93, e93, a93, s93, o93, g93, j93))) (updC j94 s94 400 0) l0 l1 l2 l3 l4 l5 ++ wPa Z p kk b (nI i94) (sf i94) (nw tk i94 b94) b94 e94 a94 y0 y1 y2 y3 y4 y5) ++ wTk Z kk t (nI (Lt + 1)) kf sf vf) ++ wTp Z t (nI tm) tb) rfl ?_
          have hic95 := inc_le (s := s94) (by omega)
          refine J_goto 203 C iX3_single_153 rfl ?_
          exact J_vret C E iX3_single_203 ⟨i94, b94, e94, a94, (inc s94 400), updC o94 s94 400 7, updC g94 s94 400 (hseC tk vf nm m (i93, b93, e93, a93, s93, o93, g93, j93)), updC j94 s94 400 0, by rw [sglB, if_neg (show ¬ nowC tk (i, b0, e, a, s, o, g, j) = 19 from hs7), if_neg (show ¬ nowC tk (i, b0, e, a, s, o, g, j) = 26 from hs49), if_neg (show ¬ nowC tk (i, b0, e, a, s, o, g, j) = 17 from hs88), if_pos (show nowC tk (i, b0, e, a, s, o, g, j) = 18 from hs128)]; rw [hR93, hR94]; first | done | rfl, by omega, by omega, rfl, rfl⟩
        · refine J_acmpne 156 C iX3_single_128 rfl (fun h128 => ?_) (fun h128 => absurd h128 (fun e => hs128 (zad_inj C (nw_lt htk _ _) (by decide) e)))
          refine J_aload_n C iX3_single_156 rfl rfl ?_
          refine J_iload_n C iX3_single_157 rfl rfl ?_
          refine J_cV (As := [.int (nI d)]) (st := []) (rc2 := (rmK (40 - 4 * d)).cells) (rs2 := (rmK (40 - 4 * d)).slots) C iX3_single_158 lm_X3_174 yc_X3_sum yv_X3_sum (hsum (by omega) (by omega)) (q0 := 24) rfl rfl rfl rfl (rmK_le (by omega) (by decide)) (Nat.le_of_ble_eq_true rfl) rfl rfl ?_
          rintro _ _ ⟨i96, b96, e96, a96, s96, o96, g96, j96, hR96, hli96, hls96, rfl, rfl⟩
          refine J_st ([]) rfl ?_
          refine J_aload_n C iX3_single_161 rfl rfl ?_
          refine J_get (.ref (zad Z (nw tk i96 b96))) 24 C iX3_single_162 gf_X3_24 rfl rfl ?_
          refine J_cSp (As := [.ref (zad Z (nw tk i96 b96))]) (st := []) C iX3_single_165 lm_X3_224 yc_X3_comparisonOp ys_X3_comparisonOp (c_X3_comparisonOp (k := nw tk i96 b96) (nw_lt htk _ _)) rfl (rmK_le (by omega) (by decide)) (Nat.le_of_ble_eq_true rfl) ⟨rfl, rfl⟩ ?_
          rintro _ rfl
          refine J_st (.int (cmpK (nw tk i96 b96)) :: []) rfl ?_
          refine J_istore_n [(2, .int (cmpK (nw tk i96 b96))), (0, .ref (p 0)), (1, .int (nI d))] C iX3_single_168 rfl (by decide) rfl ?_
          refine J_iload_n C iX3_single_169 rfl rfl ?_
          refine J_iconst (-1) C iX3_single_170 rfl ?_
          refine J_icmpne 179 C iX3_single_171 rfl (fun h171 => ?_) (fun h171 => ?_)
          · refine J_aload_n C iX3_single_179 rfl rfl ?_
            refine J_aload_n C iX3_single_180 rfl rfl ?_
            refine J_get (.ref (zad Z (nw tk i96 b96))) 24 C iX3_single_181 gf_X3_24 rfl rfl ?_
            refine J_cV (As := [.ref (zad Z (nw tk i96 b96))]) (st := []) (rc2 := (rmK (40 - 4 * d)).cells) (rs2 := (rmK (40 - 4 * d)).slots) C iX3_single_184 lm_X3_85 yc_X3_take yv_X3_take (c_X3_take (k := nw tk i96 b96) hLt hkf htk hend (by omega) (by omega) hm (nw_lt htk _ _) (by intro e9; apply h171; rw [e9]; rfl) (by intro e9; apply h171; rw [e9]; rfl)) (q0 := 24) rfl rfl rfl rfl (rmK_le (by omega) (by decide)) (Nat.le_of_ble_eq_true rfl) rfl rfl ?_
            rintro _ _ ⟨i97, b97, e97, a97, s97, o97, g97, j97, hR97, hli97, hls97, rfl, rfl⟩
            refine J_st (.long (valT tk vf (nw tk i96 b96) (i96, b96, e96, a96, s96, o96, g96, j96)) :: []) rfl ?_
            refine J_pop2 C iX3_single_187 rfl ?_
            refine J_aload_n C iX3_single_188 rfl rfl ?_
            refine J_iload_n C iX3_single_189 rfl rfl ?_
            refine J_cV (As := [.int (nI d)]) (st := []) (rc2 := (rmK (40 - 4 * d)).cells) (rs2 := (rmK (40 - 4 * d)).slots) C iX3_single_190 lm_X3_174 yc_X3_sum yv_X3_sum (hsum (by omega) (by omega)) (q0 := 24) rfl rfl rfl rfl (rmK_le (by omega) (by decide)) (Nat.le_of_ble_eq_true rfl) rfl rfl ?_
            rintro _ _ ⟨i98, b98, e98, a98, s98, o98, g98, j98, hR98, hli98, hls98, rfl, rfl⟩
            refine J_st ([]) rfl ?_
            refine J_aload_n C iX3_single_193 rfl rfl ?_
            refine J_get (.ref (b 0)) 24 C iX3_single_194 gf_X3_31 rfl rfl ?_
            refine J_iload_n C iX3_single_197 rfl rfl ?_
            refine J_iconst 0 C iX3_single_198 rfl ?_
            refine J_iconst 0 C iX3_single_199 rfl ?_
            refine J_cVb (As := [.int (cmpK (nw tk i96 b96)), .int 0, .int 0]) (st := []) (rc2 := (rmK (40 - 4 * d)).cells) (rs2 := (rmK (40 - 4 * d)).slots) C iX3_single_200 lm_X3_195 yc_X0_addStep yv_X0_addStep (c_X0_addStep (m := s98) (by omega)) (q0 := 0) rfl rfl rfl [] ((wPa Z p kk b (nI i98) (sf i98) (nw tk i98 b98) b98 e98 a98 y0 y1 y2 y3 y4 y5 ++ wTk Z kk t (nI (Lt + 1)) kf sf vf) ++ wTp Z t (nI tm) tb) rfl rfl (rmK_le (by omega) (by decide)) (Nat.le_of_ble_eq_true rfl) rfl rfl ?_
            rintro _ _ ⟨rfl, rfl⟩
            refine J_st ([]) rfl ?_
            refine J_ws (((wBk Z b L (nI m) lc (nI (inc s98 400)) nm bP bH (updC o98 s98 400 (cmpK (nw tk i96 b96))) (updC g98 s98 400 0) (updC j98 s98 400 0) l0 l1 l2 l3 l4 l5 ++ wPa Z p kk b (nI i98) (sf i98) (nw tk i98 b98) b98 e98 a98 y0 y1 y2 y3 y4 y5) ++ wTk Z kk t (nI (Lt + 1)) kf sf vf) ++ wTp Z t (nI tm) tb) rfl ?_
            have hic99 := inc_le (s := s98) (by omega)
            exact J_vret C E iX3_single_203 ⟨i98, b98, e98, a98, (inc s98 400), updC o98 s98 400 (cmpK (nw tk i96 b96)), updC g98 s98 400 0, updC j98 s98 400 0, by rw [sglB, if_neg (show ¬ nowC tk (i, b0, e, a, s, o, g, j) = 19 from hs7), if_neg (show ¬ nowC tk (i, b0, e, a, s, o, g, j) = 26 from hs49), if_neg (show ¬ nowC tk (i, b0, e, a, s, o, g, j) = 17 from hs88), if_neg (show ¬ nowC tk (i, b0, e, a, s, o, g, j) = 18 from hs128)]; rw [cmpC, hR96, if_neg (show ¬ cmpK (nowC tk (i96, b96, e96, a96, s96, o96, g96, j96)) = -1 from h171), show nowC tk (i96, b96, e96, a96, s96, o96, g96, j96) = nw tk i96 b96 from rfl, hR97, hR98]; first | done | rfl, by omega, by omega, rfl, rfl⟩
          · refine J_aload_n C iX3_single_174 rfl rfl ?_
            refine J_cV (As := []) (st := []) (rc2 := (rmK (40 - 4 * d)).cells) (rs2 := (rmK (40 - 4 * d)).slots) C iX3_single_175 lm_X3_228 yc_X3_fail yv_X3_fail (c_X3_fail (tk := tk) hLt hkf htk hend (by omega) (by omega) hm) (q0 := 24) rfl rfl rfl rfl (rmK_le (by omega) (by decide)) (Nat.le_of_ble_eq_true rfl) rfl rfl ?_
            rintro _ _ ⟨i100, b100, e100, a100, s100, o100, g100, j100, hR100, hli100, hls100, rfl, rfl⟩
            refine J_st ([]) rfl ?_
            exact J_vret C E iX3_single_178 ⟨i100, b100, e100, a100, s100, o100, g100, j100, by rw [sglB, if_neg (show ¬ nowC tk (i, b0, e, a, s, o, g, j) = 19 from hs7), if_neg (show ¬ nowC tk (i, b0, e, a, s, o, g, j) = 26 from hs49), if_neg (show ¬ nowC tk (i, b0, e, a, s, o, g, j) = 17 from hs88), if_neg (show ¬ nowC tk (i, b0, e, a, s, o, g, j) = 18 from hs128)]; rw [cmpC, hR96, if_pos (show cmpK (nowC tk (i96, b96, e96, a96, s96, o96, g96, j96)) = -1 from h171), hR100]; first | done | rfl, by omega, by omega, rfl, rfl⟩

set_option maxRecDepth 100000 in
set_option maxHeartbeats 4000000 in
theorem c_vals {Z : GZ} {l : Launch} {p kk t b L : Nat → Nat} {m Lt tm : Nat} {lc : Int32} {tb : Nat → Int32} {nm : Nat → Int64} {bP bH l0 l1 l2 l3 l4 l5 : Nat → Int32} {kf : Nat → Option Nat} {sf : Nat → Int32} {vf : Nat → Int64} {y0 y1 y2 y3 y4 y5 : Int32} {tk : Nat → Nat} (hLt : Lt ≤ 400) (hkf : ∀ i, i ≤ Lt → kf i = some (zad Z (tk i))) (htk : ∀ i, tk i < 43) (hend : ∀ i, i ≤ Lt → tk i ≠ 41 → tk i ≠ 42 → i < Lt) (hm : m ≤ 12) : ∀ r d : Nat, d + r = 8 → (∀ {i s : Nat} {b0 : Bool} {e a : Int32} {o g j : Nat → Int32}, i ≤ Lt → s ≤ 400 → Ct Z l yX3_value cX3_value 3 none (rmK (36 - 4 * d)) [.ref (p 0), .int (nI d)] (((wBk Z b L (nI m) lc (nI s) nm bP bH o g j l0 l1 l2 l3 l4 l5 ++ wPa Z p kk b (nI i) (sf i) (nw tk i b0) b0 e a y0 y1 y2 y3 y4 y5) ++ wTk Z kk t (nI (Lt + 1)) kf sf vf) ++ wTp Z t (nI tm) tb) (fun v w => ∃ i2 b2 e2 a2 s2 o2 g2 j2, valC tk sf vf nm m r d (i, b0, e, a, s, o, g, j) = (i2, b2, e2, a2, s2, o2, g2, j2) ∧ i2 ≤ Lt ∧ s2 ≤ 400 ∧ v = none ∧ w = (((wBk Z b L (nI m) lc (nI s2) nm bP bH o2 g2 j2 l0 l1 l2 l3 l4 l5 ++ wPa Z p kk b (nI i2) (sf i2) (nw tk i2 b2) b2 e2 a2 y0 y1 y2 y3 y4 y5) ++ wTk Z kk t (nI (Lt + 1)) kf sf vf) ++ wTp Z t (nI tm) tb))) ∧ (∀ {i s : Nat} {b0 : Bool} {e a : Int32} {o g j : Nat → Int32}, i ≤ Lt → s ≤ 400 → Ct Z l yX3_product cX3_product 4 none (rmK (37 - 4 * d)) [.ref (p 0), .int (nI d)] (((wBk Z b L (nI m) lc (nI s) nm bP bH o g j l0 l1 l2 l3 l4 l5 ++ wPa Z p kk b (nI i) (sf i) (nw tk i b0) b0 e a y0 y1 y2 y3 y4 y5) ++ wTk Z kk t (nI (Lt + 1)) kf sf vf) ++ wTp Z t (nI tm) tb) (fun v w => ∃ i2 b2 e2 a2 s2 o2 g2 j2, prodC tk sf (valC tk sf vf nm m r d) (i, b0, e, a, s, o, g, j) = (i2, b2, e2, a2, s2, o2, g2, j2) ∧ i2 ≤ Lt ∧ s2 ≤ 400 ∧ v = none ∧ w = (((wBk Z b L (nI m) lc (nI s2) nm bP bH o2 g2 j2 l0 l1 l2 l3 l4 l5 ++ wPa Z p kk b (nI i2) (sf i2) (nw tk i2 b2) b2 e2 a2 y0 y1 y2 y3 y4 y5) ++ wTk Z kk t (nI (Lt + 1)) kf sf vf) ++ wTp Z t (nI tm) tb))) ∧ (∀ {i s : Nat} {b0 : Bool} {e a : Int32} {o g j : Nat → Int32}, i ≤ Lt → s ≤ 400 → Ct Z l yX3_sum cX3_sum 4 none (rmK (38 - 4 * d)) [.ref (p 0), .int (nI d)] (((wBk Z b L (nI m) lc (nI s) nm bP bH o g j l0 l1 l2 l3 l4 l5 ++ wPa Z p kk b (nI i) (sf i) (nw tk i b0) b0 e a y0 y1 y2 y3 y4 y5) ++ wTk Z kk t (nI (Lt + 1)) kf sf vf) ++ wTp Z t (nI tm) tb) (fun v w => ∃ i2 b2 e2 a2 s2 o2 g2 j2, sumC tk sf (valC tk sf vf nm m r d) (i, b0, e, a, s, o, g, j) = (i2, b2, e2, a2, s2, o2, g2, j2) ∧ i2 ≤ Lt ∧ s2 ≤ 400 ∧ v = none ∧ w = (((wBk Z b L (nI m) lc (nI s2) nm bP bH o2 g2 j2 l0 l1 l2 l3 l4 l5 ++ wPa Z p kk b (nI i2) (sf i2) (nw tk i2 b2) b2 e2 a2 y0 y1 y2 y3 y4 y5) ++ wTk Z kk t (nI (Lt + 1)) kf sf vf) ++ wTp Z t (nI tm) tb))) := by
  have up : ∀ (r d : Nat), d ≤ 8 → (∀ {i s : Nat} {b0 : Bool} {e a : Int32} {o g j : Nat → Int32}, i ≤ Lt → s ≤ 400 → Ct Z l yX3_value cX3_value 3 none (rmK (36 - 4 * d)) [.ref (p 0), .int (nI d)] (((wBk Z b L (nI m) lc (nI s) nm bP bH o g j l0 l1 l2 l3 l4 l5 ++ wPa Z p kk b (nI i) (sf i) (nw tk i b0) b0 e a y0 y1 y2 y3 y4 y5) ++ wTk Z kk t (nI (Lt + 1)) kf sf vf) ++ wTp Z t (nI tm) tb) (fun v w => ∃ i2 b2 e2 a2 s2 o2 g2 j2, valC tk sf vf nm m r d (i, b0, e, a, s, o, g, j) = (i2, b2, e2, a2, s2, o2, g2, j2) ∧ i2 ≤ Lt ∧ s2 ≤ 400 ∧ v = none ∧ w = (((wBk Z b L (nI m) lc (nI s2) nm bP bH o2 g2 j2 l0 l1 l2 l3 l4 l5 ++ wPa Z p kk b (nI i2) (sf i2) (nw tk i2 b2) b2 e2 a2 y0 y1 y2 y3 y4 y5) ++ wTk Z kk t (nI (Lt + 1)) kf sf vf) ++ wTp Z t (nI tm) tb))) → (∀ {i s : Nat} {b0 : Bool} {e a : Int32} {o g j : Nat → Int32}, i ≤ Lt → s ≤ 400 → Ct Z l yX3_value cX3_value 3 none (rmK (36 - 4 * d)) [.ref (p 0), .int (nI d)] (((wBk Z b L (nI m) lc (nI s) nm bP bH o g j l0 l1 l2 l3 l4 l5 ++ wPa Z p kk b (nI i) (sf i) (nw tk i b0) b0 e a y0 y1 y2 y3 y4 y5) ++ wTk Z kk t (nI (Lt + 1)) kf sf vf) ++ wTp Z t (nI tm) tb) (fun v w => ∃ i2 b2 e2 a2 s2 o2 g2 j2, valC tk sf vf nm m r d (i, b0, e, a, s, o, g, j) = (i2, b2, e2, a2, s2, o2, g2, j2) ∧ i2 ≤ Lt ∧ s2 ≤ 400 ∧ v = none ∧ w = (((wBk Z b L (nI m) lc (nI s2) nm bP bH o2 g2 j2 l0 l1 l2 l3 l4 l5 ++ wPa Z p kk b (nI i2) (sf i2) (nw tk i2 b2) b2 e2 a2 y0 y1 y2 y3 y4 y5) ++ wTk Z kk t (nI (Lt + 1)) kf sf vf) ++ wTp Z t (nI tm) tb))) ∧ (∀ {i s : Nat} {b0 : Bool} {e a : Int32} {o g j : Nat → Int32}, i ≤ Lt → s ≤ 400 → Ct Z l yX3_product cX3_product 4 none (rmK (37 - 4 * d)) [.ref (p 0), .int (nI d)] (((wBk Z b L (nI m) lc (nI s) nm bP bH o g j l0 l1 l2 l3 l4 l5 ++ wPa Z p kk b (nI i) (sf i) (nw tk i b0) b0 e a y0 y1 y2 y3 y4 y5) ++ wTk Z kk t (nI (Lt + 1)) kf sf vf) ++ wTp Z t (nI tm) tb) (fun v w => ∃ i2 b2 e2 a2 s2 o2 g2 j2, prodC tk sf (valC tk sf vf nm m r d) (i, b0, e, a, s, o, g, j) = (i2, b2, e2, a2, s2, o2, g2, j2) ∧ i2 ≤ Lt ∧ s2 ≤ 400 ∧ v = none ∧ w = (((wBk Z b L (nI m) lc (nI s2) nm bP bH o2 g2 j2 l0 l1 l2 l3 l4 l5 ++ wPa Z p kk b (nI i2) (sf i2) (nw tk i2 b2) b2 e2 a2 y0 y1 y2 y3 y4 y5) ++ wTk Z kk t (nI (Lt + 1)) kf sf vf) ++ wTp Z t (nI tm) tb))) ∧ (∀ {i s : Nat} {b0 : Bool} {e a : Int32} {o g j : Nat → Int32}, i ≤ Lt → s ≤ 400 → Ct Z l yX3_sum cX3_sum 4 none (rmK (38 - 4 * d)) [.ref (p 0), .int (nI d)] (((wBk Z b L (nI m) lc (nI s) nm bP bH o g j l0 l1 l2 l3 l4 l5 ++ wPa Z p kk b (nI i) (sf i) (nw tk i b0) b0 e a y0 y1 y2 y3 y4 y5) ++ wTk Z kk t (nI (Lt + 1)) kf sf vf) ++ wTp Z t (nI tm) tb) (fun v w => ∃ i2 b2 e2 a2 s2 o2 g2 j2, sumC tk sf (valC tk sf vf nm m r d) (i, b0, e, a, s, o, g, j) = (i2, b2, e2, a2, s2, o2, g2, j2) ∧ i2 ≤ Lt ∧ s2 ≤ 400 ∧ v = none ∧ w = (((wBk Z b L (nI m) lc (nI s2) nm bP bH o2 g2 j2 l0 l1 l2 l3 l4 l5 ++ wPa Z p kk b (nI i2) (sf i2) (nw tk i2 b2) b2 e2 a2 y0 y1 y2 y3 y4 y5) ++ wTk Z kk t (nI (Lt + 1)) kf sf vf) ++ wTp Z t (nI tm) tb))) := by
    intro r d hd h1
    have h2 : (∀ {i s : Nat} {b0 : Bool} {e a : Int32} {o g j : Nat → Int32}, i ≤ Lt → s ≤ 400 → Ct Z l yX3_product cX3_product 4 none (rmK (37 - 4 * d)) [.ref (p 0), .int (nI d)] (((wBk Z b L (nI m) lc (nI s) nm bP bH o g j l0 l1 l2 l3 l4 l5 ++ wPa Z p kk b (nI i) (sf i) (nw tk i b0) b0 e a y0 y1 y2 y3 y4 y5) ++ wTk Z kk t (nI (Lt + 1)) kf sf vf) ++ wTp Z t (nI tm) tb) (fun v w => ∃ i2 b2 e2 a2 s2 o2 g2 j2, prodC tk sf (valC tk sf vf nm m r d) (i, b0, e, a, s, o, g, j) = (i2, b2, e2, a2, s2, o2, g2, j2) ∧ i2 ≤ Lt ∧ s2 ≤ 400 ∧ v = none ∧ w = (((wBk Z b L (nI m) lc (nI s2) nm bP bH o2 g2 j2 l0 l1 l2 l3 l4 l5 ++ wPa Z p kk b (nI i2) (sf i2) (nw tk i2 b2) b2 e2 a2 y0 y1 y2 y3 y4 y5) ++ wTk Z kk t (nI (Lt + 1)) kf sf vf) ++ wTp Z t (nI tm) tb))) := fun hi hs => c_X3_product hLt hkf htk hend hm hd h1 hi hs
    exact ⟨h1, h2, fun hi hs => c_X3_sum hLt hkf htk hend hm hd h2 hi hs⟩
  intro r
  induction r with
  | zero =>
    intro d hd
    exact up 0 d (by omega) (fun hi hs => c_X3_value hLt hkf htk hend hm (by omega) (fun h => absurd h (by omega)) (fun h => absurd h (by omega)) hi hs)
  | succ r ih =>
    intro d hd
    obtain ⟨h1, h2, h3⟩ := ih (d + 1) (by omega)
    refine up (r + 1) d (by omega) (fun hi hs => c_X3_value hLt hkf htk hend hm (by omega) (fun _ => ?_) (fun _ => ?_) hi hs)
    · rw [show 32 - 4 * d = 36 - 4 * (d + 1) by omega]; exact h1
    · rw [show 34 - 4 * d = 38 - 4 * (d + 1) by omega]; exact h3
set_option maxRecDepth 100000 in
set_option maxHeartbeats 4000000 in
theorem c_sgls {Z : GZ} {l : Launch} {p kk t b L : Nat → Nat} {m Lt tm : Nat} {lc : Int32} {tb : Nat → Int32} {nm : Nat → Int64} {bP bH l0 l1 l2 l3 l4 l5 : Nat → Int32} {kf : Nat → Option Nat} {sf : Nat → Int32} {vf : Nat → Int64} {y0 y1 y2 y3 y4 y5 : Int32} {tk : Nat → Nat} (hLt : Lt ≤ 400) (hkf : ∀ i, i ≤ Lt → kf i = some (zad Z (tk i))) (htk : ∀ i, tk i < 43) (hend : ∀ i, i ≤ Lt → tk i ≠ 41 → tk i ≠ 42 → i < Lt) (hm : m ≤ 12) : ∀ r d : Nat, d + r = 8 → (∀ {i s : Nat} {b0 : Bool} {e a : Int32} {o g j : Nat → Int32}, i ≤ Lt → s ≤ 400 → Ct Z l yX3_single cX3_single 3 none (rmK (40 - 4 * d)) [.ref (p 0), .int (nI d)] (((wBk Z b L (nI m) lc (nI s) nm bP bH o g j l0 l1 l2 l3 l4 l5 ++ wPa Z p kk b (nI i) (sf i) (nw tk i b0) b0 e a y0 y1 y2 y3 y4 y5) ++ wTk Z kk t (nI (Lt + 1)) kf sf vf) ++ wTp Z t (nI tm) tb) (fun v w => ∃ i2 b2 e2 a2 s2 o2 g2 j2, sglC tk sf vf nm m r d (i, b0, e, a, s, o, g, j) = (i2, b2, e2, a2, s2, o2, g2, j2) ∧ i2 ≤ Lt ∧ s2 ≤ 400 ∧ v = none ∧ w = (((wBk Z b L (nI m) lc (nI s2) nm bP bH o2 g2 j2 l0 l1 l2 l3 l4 l5 ++ wPa Z p kk b (nI i2) (sf i2) (nw tk i2 b2) b2 e2 a2 y0 y1 y2 y3 y4 y5) ++ wTk Z kk t (nI (Lt + 1)) kf sf vf) ++ wTp Z t (nI tm) tb))) ∧ (∀ {i s : Nat} {b0 : Bool} {e a : Int32} {o g j : Nat → Int32}, i ≤ Lt → s ≤ 400 → Ct Z l yX3_test cX3_test 3 none (rmK (42 - 4 * d)) [.ref (p 0), .int (nI d)] (((wBk Z b L (nI m) lc (nI s) nm bP bH o g j l0 l1 l2 l3 l4 l5 ++ wPa Z p kk b (nI i) (sf i) (nw tk i b0) b0 e a y0 y1 y2 y3 y4 y5) ++ wTk Z kk t (nI (Lt + 1)) kf sf vf) ++ wTp Z t (nI tm) tb) (fun v w => ∃ i2 b2 e2 a2 s2 o2 g2 j2, testC tk sf (sglC tk sf vf nm m r d) (i, b0, e, a, s, o, g, j) = (i2, b2, e2, a2, s2, o2, g2, j2) ∧ i2 ≤ Lt ∧ s2 ≤ 400 ∧ v = none ∧ w = (((wBk Z b L (nI m) lc (nI s2) nm bP bH o2 g2 j2 l0 l1 l2 l3 l4 l5 ++ wPa Z p kk b (nI i2) (sf i2) (nw tk i2 b2) b2 e2 a2 y0 y1 y2 y3 y4 y5) ++ wTk Z kk t (nI (Lt + 1)) kf sf vf) ++ wTp Z t (nI tm) tb))) := by
  have up : ∀ (r d : Nat), d ≤ 8 → (∀ {i s : Nat} {b0 : Bool} {e a : Int32} {o g j : Nat → Int32}, i ≤ Lt → s ≤ 400 → Ct Z l yX3_single cX3_single 3 none (rmK (40 - 4 * d)) [.ref (p 0), .int (nI d)] (((wBk Z b L (nI m) lc (nI s) nm bP bH o g j l0 l1 l2 l3 l4 l5 ++ wPa Z p kk b (nI i) (sf i) (nw tk i b0) b0 e a y0 y1 y2 y3 y4 y5) ++ wTk Z kk t (nI (Lt + 1)) kf sf vf) ++ wTp Z t (nI tm) tb) (fun v w => ∃ i2 b2 e2 a2 s2 o2 g2 j2, sglC tk sf vf nm m r d (i, b0, e, a, s, o, g, j) = (i2, b2, e2, a2, s2, o2, g2, j2) ∧ i2 ≤ Lt ∧ s2 ≤ 400 ∧ v = none ∧ w = (((wBk Z b L (nI m) lc (nI s2) nm bP bH o2 g2 j2 l0 l1 l2 l3 l4 l5 ++ wPa Z p kk b (nI i2) (sf i2) (nw tk i2 b2) b2 e2 a2 y0 y1 y2 y3 y4 y5) ++ wTk Z kk t (nI (Lt + 1)) kf sf vf) ++ wTp Z t (nI tm) tb))) → (∀ {i s : Nat} {b0 : Bool} {e a : Int32} {o g j : Nat → Int32}, i ≤ Lt → s ≤ 400 → Ct Z l yX3_single cX3_single 3 none (rmK (40 - 4 * d)) [.ref (p 0), .int (nI d)] (((wBk Z b L (nI m) lc (nI s) nm bP bH o g j l0 l1 l2 l3 l4 l5 ++ wPa Z p kk b (nI i) (sf i) (nw tk i b0) b0 e a y0 y1 y2 y3 y4 y5) ++ wTk Z kk t (nI (Lt + 1)) kf sf vf) ++ wTp Z t (nI tm) tb) (fun v w => ∃ i2 b2 e2 a2 s2 o2 g2 j2, sglC tk sf vf nm m r d (i, b0, e, a, s, o, g, j) = (i2, b2, e2, a2, s2, o2, g2, j2) ∧ i2 ≤ Lt ∧ s2 ≤ 400 ∧ v = none ∧ w = (((wBk Z b L (nI m) lc (nI s2) nm bP bH o2 g2 j2 l0 l1 l2 l3 l4 l5 ++ wPa Z p kk b (nI i2) (sf i2) (nw tk i2 b2) b2 e2 a2 y0 y1 y2 y3 y4 y5) ++ wTk Z kk t (nI (Lt + 1)) kf sf vf) ++ wTp Z t (nI tm) tb))) ∧ (∀ {i s : Nat} {b0 : Bool} {e a : Int32} {o g j : Nat → Int32}, i ≤ Lt → s ≤ 400 → Ct Z l yX3_test cX3_test 3 none (rmK (42 - 4 * d)) [.ref (p 0), .int (nI d)] (((wBk Z b L (nI m) lc (nI s) nm bP bH o g j l0 l1 l2 l3 l4 l5 ++ wPa Z p kk b (nI i) (sf i) (nw tk i b0) b0 e a y0 y1 y2 y3 y4 y5) ++ wTk Z kk t (nI (Lt + 1)) kf sf vf) ++ wTp Z t (nI tm) tb) (fun v w => ∃ i2 b2 e2 a2 s2 o2 g2 j2, testC tk sf (sglC tk sf vf nm m r d) (i, b0, e, a, s, o, g, j) = (i2, b2, e2, a2, s2, o2, g2, j2) ∧ i2 ≤ Lt ∧ s2 ≤ 400 ∧ v = none ∧ w = (((wBk Z b L (nI m) lc (nI s2) nm bP bH o2 g2 j2 l0 l1 l2 l3 l4 l5 ++ wPa Z p kk b (nI i2) (sf i2) (nw tk i2 b2) b2 e2 a2 y0 y1 y2 y3 y4 y5) ++ wTk Z kk t (nI (Lt + 1)) kf sf vf) ++ wTp Z t (nI tm) tb))) := by
    intro r d hd h1
    have h2 : (∀ {i s : Nat} {b0 : Bool} {e a : Int32} {o g j : Nat → Int32}, i ≤ Lt → s ≤ 400 → Ct Z l yX3_both cX3_both 3 none (rmK (41 - 4 * d)) [.ref (p 0), .int (nI d)] (((wBk Z b L (nI m) lc (nI s) nm bP bH o g j l0 l1 l2 l3 l4 l5 ++ wPa Z p kk b (nI i) (sf i) (nw tk i b0) b0 e a y0 y1 y2 y3 y4 y5) ++ wTk Z kk t (nI (Lt + 1)) kf sf vf) ++ wTp Z t (nI tm) tb) (fun v w => ∃ i2 b2 e2 a2 s2 o2 g2 j2, bothC tk sf (sglC tk sf vf nm m r d) (i, b0, e, a, s, o, g, j) = (i2, b2, e2, a2, s2, o2, g2, j2) ∧ i2 ≤ Lt ∧ s2 ≤ 400 ∧ v = none ∧ w = (((wBk Z b L (nI m) lc (nI s2) nm bP bH o2 g2 j2 l0 l1 l2 l3 l4 l5 ++ wPa Z p kk b (nI i2) (sf i2) (nw tk i2 b2) b2 e2 a2 y0 y1 y2 y3 y4 y5) ++ wTk Z kk t (nI (Lt + 1)) kf sf vf) ++ wTp Z t (nI tm) tb))) := fun hi hs => c_X3_both hLt hkf htk hend hm hd h1 hi hs
    exact ⟨h1, fun hi hs => c_X3_test hLt hkf htk hend hm hd h2 hi hs⟩
  intro r
  induction r with
  | zero =>
    intro d hd
    obtain ⟨-, -, g3⟩ := c_vals hLt hkf htk hend hm 0 d hd
    exact up 0 d (by omega) (fun hi hs => c_X3_single hLt hkf htk hend hm (by omega) (fun h => absurd h (by omega)) (fun h => absurd h (by omega)) g3 hi hs)
  | succ r ih =>
    intro d hd
    obtain ⟨h1, h2⟩ := ih (d + 1) (by omega)
    obtain ⟨-, -, g3⟩ := c_vals hLt hkf htk hend hm (r + 1) d hd
    refine up (r + 1) d (by omega) (fun hi hs => c_X3_single hLt hkf htk hend hm (by omega) (fun _ => ?_) (fun _ => ?_) g3 hi hs)
    · rw [show 36 - 4 * d = 40 - 4 * (d + 1) by omega]; exact h1
    · rw [show 38 - 4 * d = 42 - 4 * (d + 1) by omega]; exact h2
