set_option maxRecDepth 100000 in
set_option maxHeartbeats 4000000 in
theorem c_X8_digest {Z : GZ} {l : Launch} {x t b p h r a e kk L Ld : Nat → Nat} {N u tm nk : Nat} {er dg co li sk scd hcd lcd sc ct ti si fl fa nt dgt cot lit y0 y1 y2 y3 y4 y5 : Int32} {br : Bool} {ss pP pH pF pT pS pD pC tb bP bH op f1 f2 l0 l1 l2 l3 l4 l5 bPd bHd opd f1d f2d l0d l1d l2d l3d l4d l5d sf0 pPt pHt pFt pTt pSt pDt pCt : Nat → Int32} {nm nmd vf0 : Nat → Int64} {kf0 : Nat → Option Nat} (hN : N ≤ 12)  : Ct Z l yX8_digest cX8_digest 5 (some .long) (rmK 5) [.ref (x 0)] ((((((((wRg Z x t b p h r a e er ++ wSt Z e nt dgt cot lit pPt pHt pFt pTt pSt pDt pCt) ++ wSt Z a (nI N) dg co li pP pH pF pT pS pD pC) ++ wRk Z r h sk ss) ++ wBk Z h L (nI N) (nI u) sc nm bP bH op f1 f2 l0 l1 l2 l3 l4 l5) ++ wBk Z b Ld hcd lcd scd nmd bPd bHd opd f1d f2d l0d l1d l2d l3d l4d l5d) ++ wPa Z p kk b ti si nk br fl fa y0 y1 y2 y3 y4 y5) ++ wTk Z kk t ct kf0 sf0 vf0) ++ wTp Z t (nI tm) tb) (fun v w => v = some (.long (dgR N pD (dgO N pP pH pF pT pS pD pC (dg0 N u dg co li (cntN (ltB N pD) N)) N) 13)) ∧ w = ((((((((wRg Z x t b p h r a e er ++ wSt Z e nt dgt cot lit pPt pHt pFt pTt pSt pDt pCt) ++ wSt Z a (nI N) dg co li pP pH pF pT pS pD pC) ++ wRk Z r h sk ss) ++ wBk Z h L (nI N) (nI u) sc nm bP bH op f1 f2 l0 l1 l2 l3 l4 l5) ++ wBk Z b Ld hcd lcd scd nmd bPd bHd opd f1d f2d l0d l1d l2d l3d l4d l5d) ++ wPa Z p kk b ti si nk br fl fa y0 y1 y2 y3 y4 y5) ++ wTk Z kk t ct kf0 sf0 vf0) ++ wTp Z t (nI tm) tb)) := by
  refine Ct.ofJ (own := RX8) (nm := "digest") (lv0 := [(0, .ref (x 0))]) (by decide) rfl rfl (Nat.le_of_ble_eq_true rfl) rfl (fun X hXl C E => ?_)
  subst hXl
  refine J_ldc2 1013 C iX8_digest_0 (tsg_in (i := 715) (by decide +kernel) rfl) ?_
  refine J_lstore_n [(1, .long 1013), (0, .ref (x 0))] C iX8_digest_3 rfl (by decide) rfl ?_
  refine J_lload_n C iX8_digest_4 rfl rfl ?_
  refine J_ldc2 31 C iX8_digest_5 (tsg_in (i := 716) (by decide +kernel) rfl) ?_
  refine J_lmul C iX8_digest_8 ?_
  refine J_aload_n C iX8_digest_9 rfl rfl ?_
  refine J_cV (As := []) (st := .long (1013 * 31) :: []) (rc2 := (rmK 5).cells) (rs2 := (rmK 5).slots) C iX8_digest_10 lm_X8_207 yc_X8_houses yv_X8_houses c_X8_houses (q0 := 0) rfl rfl rfl rfl ⟨by decide, by decide⟩ (Nat.le_of_ble_eq_true rfl) rfl rfl ?_
  rintro _ _ ⟨rfl, rfl⟩
  refine J_st (.int (nI N) :: .long (1013 * 31) :: []) rfl ?_
  refine J_i2l C iX8_digest_13 ?_
  refine J_ladd C iX8_digest_14 ?_
  refine J_lstore_n [(1, .long ((1013 * 31) + ((nI N).toInt64))), (0, .ref (x 0))] C iX8_digest_15 rfl (by decide) rfl ?_
  refine J_lload_n C iX8_digest_16 rfl rfl ?_
  refine J_ldc2 31 C iX8_digest_17 (tsg_in (i := 716) (by decide +kernel) rfl) ?_
  refine J_lmul C iX8_digest_20 ?_
  refine J_aload_n C iX8_digest_21 rfl rfl ?_
  refine J_cV (As := []) (st := .long (((1013 * 31) + ((nI N).toInt64)) * 31) :: []) (rc2 := (rmK 5).cells) (rs2 := (rmK 5).slots) C iX8_digest_22 lm_X8_210 yc_X8_laws yv_X8_laws c_X8_laws (q0 := 0) rfl rfl rfl rfl ⟨by decide, by decide⟩ (Nat.le_of_ble_eq_true rfl) rfl rfl ?_
  rintro _ _ ⟨rfl, rfl⟩
  refine J_st (.int (nI u) :: .long (((1013 * 31) + ((nI N).toInt64)) * 31) :: []) rfl ?_
  refine J_i2l C iX8_digest_25 ?_
  refine J_ladd C iX8_digest_26 ?_
  refine J_lstore_n [(1, .long ((((1013 * 31) + ((nI N).toInt64)) * 31) + ((nI u).toInt64))), (0, .ref (x 0))] C iX8_digest_27 rfl (by decide) rfl ?_
  refine J_lload_n C iX8_digest_28 rfl rfl ?_
  refine J_ldc2 31 C iX8_digest_29 (tsg_in (i := 716) (by decide +kernel) rfl) ?_
  refine J_lmul C iX8_digest_32 ?_
  refine J_aload_n C iX8_digest_33 rfl rfl ?_
  refine J_cV (As := []) (st := .long (((((1013 * 31) + ((nI N).toInt64)) * 31) + ((nI u).toInt64)) * 31) :: []) (rc2 := (rmK 5).cells) (rs2 := (rmK 5).slots) C iX8_digest_34 lm_X8_213 yc_X8_days yv_X8_days c_X8_days (q0 := 0) rfl rfl rfl rfl ⟨by decide, by decide⟩ (Nat.le_of_ble_eq_true rfl) rfl rfl ?_
  rintro _ _ ⟨rfl, rfl⟩
  refine J_st (.int dg :: .long (((((1013 * 31) + ((nI N).toInt64)) * 31) + ((nI u).toInt64)) * 31) :: []) rfl ?_
  refine J_i2l C iX8_digest_37 ?_
  refine J_ladd C iX8_digest_38 ?_
  refine J_lstore_n [(1, .long ((((((1013 * 31) + ((nI N).toInt64)) * 31) + ((nI u).toInt64)) * 31) + dg.toInt64)), (0, .ref (x 0))] C iX8_digest_39 rfl (by decide) rfl ?_
  refine J_lload_n C iX8_digest_40 rfl rfl ?_
  refine J_ldc2 31 C iX8_digest_41 (tsg_in (i := 716) (by decide +kernel) rfl) ?_
  refine J_lmul C iX8_digest_44 ?_
  refine J_aload_n C iX8_digest_45 rfl rfl ?_
  refine J_cV (As := []) (st := .long (((((((1013 * 31) + ((nI N).toInt64)) * 31) + ((nI u).toInt64)) * 31) + dg.toInt64) * 31) :: []) (rc2 := (rmK 5).cells) (rs2 := (rmK 5).slots) C iX8_digest_46 lm_X8_216 yc_X8_lawsCarriedOut yv_X8_lawsCarriedOut c_X8_lawsCarriedOut (q0 := 0) rfl rfl rfl rfl ⟨by decide, by decide⟩ (Nat.le_of_ble_eq_true rfl) rfl rfl ?_
  rintro _ _ ⟨rfl, rfl⟩
  refine J_st (.int co :: .long (((((((1013 * 31) + ((nI N).toInt64)) * 31) + ((nI u).toInt64)) * 31) + dg.toInt64) * 31) :: []) rfl ?_
  refine J_i2l C iX8_digest_49 ?_
  refine J_ladd C iX8_digest_50 ?_
  refine J_lstore_n [(1, .long ((((((((1013 * 31) + ((nI N).toInt64)) * 31) + ((nI u).toInt64)) * 31) + dg.toInt64) * 31) + co.toInt64)), (0, .ref (x 0))] C iX8_digest_51 rfl (by decide) rfl ?_
  refine J_lload_n C iX8_digest_52 rfl rfl ?_
  refine J_ldc2 31 C iX8_digest_53 (tsg_in (i := 716) (by decide +kernel) rfl) ?_
  refine J_lmul C iX8_digest_56 ?_
  refine J_aload_n C iX8_digest_57 rfl rfl ?_
  refine J_cV (As := []) (st := .long (((((((((1013 * 31) + ((nI N).toInt64)) * 31) + ((nI u).toInt64)) * 31) + dg.toInt64) * 31) + co.toInt64) * 31) :: []) (rc2 := (rmK 5).cells) (rs2 := (rmK 5).slots) C iX8_digest_58 lm_X8_219 yc_X8_allHoursLost yv_X8_allHoursLost c_X8_allHoursLost (q0 := 0) rfl rfl rfl rfl ⟨by decide, by decide⟩ (Nat.le_of_ble_eq_true rfl) rfl rfl ?_
  rintro _ _ ⟨rfl, rfl⟩
  refine J_st (.int li :: .long (((((((((1013 * 31) + ((nI N).toInt64)) * 31) + ((nI u).toInt64)) * 31) + dg.toInt64) * 31) + co.toInt64) * 31) :: []) rfl ?_
  refine J_i2l C iX8_digest_61 ?_
  refine J_ladd C iX8_digest_62 ?_
  refine J_lstore_n [(1, .long ((((((((((1013 * 31) + ((nI N).toInt64)) * 31) + ((nI u).toInt64)) * 31) + dg.toInt64) * 31) + co.toInt64) * 31) + li.toInt64)), (0, .ref (x 0))] C iX8_digest_63 rfl (by decide) rfl ?_
  refine J_lload_n C iX8_digest_64 rfl rfl ?_
  refine J_ldc2 31 C iX8_digest_65 (tsg_in (i := 716) (by decide +kernel) rfl) ?_
  refine J_lmul C iX8_digest_68 ?_
  refine J_aload_n C iX8_digest_69 rfl rfl ?_
  refine J_cV (As := []) (st := .long (((((((((((1013 * 31) + ((nI N).toInt64)) * 31) + ((nI u).toInt64)) * 31) + dg.toInt64) * 31) + co.toInt64) * 31) + li.toInt64) * 31) :: []) (rc2 := (rmK 5).cells) (rs2 := (rmK 5).slots) C iX8_digest_70 lm_X8_222 yc_X8_lightHouses yv_X8_lightHouses (c_X8_lightHouses hN) (q0 := 0) rfl rfl rfl rfl ⟨by decide, by decide⟩ (Nat.le_of_ble_eq_true rfl) rfl rfl ?_
  rintro _ _ ⟨rfl, rfl⟩
  refine J_st (.int (nI (cntN (ltB N pD) N)) :: .long (((((((((((1013 * 31) + ((nI N).toInt64)) * 31) + ((nI u).toInt64)) * 31) + dg.toInt64) * 31) + co.toInt64) * 31) + li.toInt64) * 31) :: []) rfl ?_
  refine J_i2l C iX8_digest_73 ?_
  refine J_ladd C iX8_digest_74 ?_
  refine J_lstore_n [(1, .long ((((((((((((1013 * 31) + ((nI N).toInt64)) * 31) + ((nI u).toInt64)) * 31) + dg.toInt64) * 31) + co.toInt64) * 31) + li.toInt64) * 31) + ((nI (cntN (ltB N pD) N)).toInt64))), (0, .ref (x 0))] C iX8_digest_75 rfl (by decide) rfl ?_
  refine J_iconst 0 C iX8_digest_76 rfl ?_
  refine J_istore_n [(3, .int 0), (1, .long ((((((((((((1013 * 31) + ((nI N).toInt64)) * 31) + ((nI u).toInt64)) * 31) + dg.toInt64) * 31) + co.toInt64) * 31) + li.toInt64) * 31) + ((nI (cntN (ltB N pD) N)).toInt64))), (0, .ref (x 0))] C iX8_digest_77 rfl (by decide) rfl ?_
  refine J_lvm [(1, .long (dg0 N u dg co li (cntN (ltB N pD) N))), (3, .int 0), (0, .ref (x 0))] (by rfl) ?_
  refine J_forI (σ := Int64) (fun i q => [(1, .long q), (3, .int (nI i)), (0, .ref (x 0))]) (fun i q => ((((((((wRg Z x t b p h r a e er ++ wSt Z e nt dgt cot lit pPt pHt pFt pTt pSt pDt pCt) ++ wSt Z a (nI N) dg co li pP pH pF pT pS pD pC) ++ wRk Z r h sk ss) ++ wBk Z h L (nI N) (nI u) sc nm bP bH op f1 f2 l0 l1 l2 l3 l4 l5) ++ wBk Z b Ld hcd lcd scd nmd bPd bHd opd f1d f2d l0d l1d l2d l3d l4d l5d) ++ wPa Z p kk b ti si nk br fl fa y0 y1 y2 y3 y4 y5) ++ wTk Z kk t ct kf0 sf0 vf0) ++ wTp Z t (nI tm) tb)) (fun i q => dgO N pP pH pF pT pS pD pC (dg0 N u dg co li (cntN (ltB N pD) N)) i = q) N 0 ((dg0 N u dg co li (cntN (ltB N pD) N))) (by omega) rfl ?_ ?_
  · rintro d5 hI
    refine J_iload_n C iX8_digest_78 rfl rfl ?_
    refine J_aload_n C iX8_digest_79 rfl rfl ?_
    refine J_get (.ref (a 0)) 0 C iX8_digest_80 gf_X8_52 rfl rfl ?_
    refine J_get (.int (nI N)) 9 C iX8_digest_83 gf_X8_95 rfl rfl ?_
    refine J_icmpge 233 C iX8_digest_86 rfl (fun h86 => ?_) (fun h86 => absurd (nI_le (Nat.le_refl N) (by omega)) h86)
    refine J_bipush 6 C iX8_digest_233 rfl ?_
    refine J_istore_n [(3, .int 6), (1, .long d5), (0, .ref (x 0))] C iX8_digest_235 rfl (by decide) rfl ?_
    rw [← hI]
    refine J_lvm [(1, .long (dgO N pP pH pF pT pS pD pC (dg0 N u dg co li (cntN (ltB N pD) N)) N)), (3, .int 6), (0, .ref (x 0))] (by rfl) ?_
    refine J_forI (σ := Int64) (fun k q => [(1, .long q), (3, .int (nI k)), (0, .ref (x 0))]) (fun k q => ((((((((wRg Z x t b p h r a e er ++ wSt Z e nt dgt cot lit pPt pHt pFt pTt pSt pDt pCt) ++ wSt Z a (nI N) dg co li pP pH pF pT pS pD pC) ++ wRk Z r h sk ss) ++ wBk Z h L (nI N) (nI u) sc nm bP bH op f1 f2 l0 l1 l2 l3 l4 l5) ++ wBk Z b Ld hcd lcd scd nmd bPd bHd opd f1d f2d l0d l1d l2d l3d l4d l5d) ++ wPa Z p kk b ti si nk br fl fa y0 y1 y2 y3 y4 y5) ++ wTk Z kk t ct kf0 sf0 vf0) ++ wTp Z t (nI tm) tb)) (fun k q => dgR N pD (dgO N pP pH pF pT pS pD pC (dg0 N u dg co li (cntN (ltB N pD) N)) N) (k - 6) = q) 19 6 (dgO N pP pH pF pT pS pD pC (dg0 N u dg co li (cntN (ltB N pD) N)) N) (by omega) rfl ?_ ?_
    · rintro d7 hJ
      refine J_iload_n C iX8_digest_236 rfl rfl ?_
      refine J_bipush 18 C iX8_digest_237 rfl ?_
      refine J_icmpgt 261 C iX8_digest_239 rfl (fun h239 => ?_) (fun h239 => absurd (by decide) h239)
      refine J_lload_n C iX8_digest_261 rfl rfl ?_
      exact J_lret C E iX8_digest_262 ⟨by rw [← hJ], rfl⟩
    · rintro k d7 hk0 hk hJ ih
      refine J_iload_n C iX8_digest_236 rfl rfl ?_
      refine J_bipush 18 C iX8_digest_237 rfl ?_
      refine J_icmpgt 261 C iX8_digest_239 rfl (fun h239 => absurd h239 (nI_nlt (a := 18) (b := k) (by omega) (by decide))) (fun h239 => ?_)
      refine J_lload_n C iX8_digest_242 rfl rfl ?_
      refine J_ldc2 31 C iX8_digest_243 (tsg_in (i := 716) (by decide +kernel) rfl) ?_
      refine J_lmul C iX8_digest_246 ?_
      refine J_aload_n C iX8_digest_247 rfl rfl ?_
      refine J_iload_n C iX8_digest_248 rfl rfl ?_
      refine J_cV (As := [.int (nI k)]) (st := .long (d7 * 31) :: []) (rc2 := (rmK 5).cells) (rs2 := (rmK 5).slots) C iX8_digest_249 lm_X8_169 yc_X8_countDark yv_X8_countDark (c_X8_countDark (q := nI k) hN) (q0 := 0) rfl rfl rfl rfl ⟨by decide, by decide⟩ (Nat.le_of_ble_eq_true rfl) rfl rfl ?_
      rintro _ _ ⟨rfl, rfl⟩
      refine J_st (.int (nI (cntN (dkB N pD (nI k)) N)) :: .long (d7 * 31) :: []) rfl ?_
      refine J_i2l C iX8_digest_252 ?_
      refine J_ladd C iX8_digest_253 ?_
      refine J_lstore_n [(1, .long ((d7 * 31) + ((nI (cntN (dkB N pD (nI k)) N)).toInt64))), (3, .int (nI k)), (0, .ref (x 0))] C iX8_digest_254 rfl (by decide) rfl ?_
      refine J_iinc ((nI k) + 1) [(3, .int ((nI k) + 1)), (1, .long ((d7 * 31) + ((nI (cntN (dkB N pD (nI k)) N)).toInt64))), (0, .ref (x 0))] C iX8_digest_255 rfl rfl (by decide) rfl ?_
      rw [show (nI k) + 1 = nI (k + 1) from nI_add _ _]
      refine J_goto 236 C iX8_digest_258 rfl ?_
      refine J_lvm [(1, .long ((d7 * 31) + ((nI (cntN (dkB N pD (nI k)) N)).toInt64))), (3, .int (nI (k + 1))), (0, .ref (x 0))] rfl ?_
      exact ih ((d7 * 31) + ((nI (cntN (dkB N pD (nI k)) N)).toInt64)) (by rw [dgR_s hk0, hJ]; rfl)
  · rintro i d5 hi0 hi hI ih
    refine J_iload_n C iX8_digest_78 rfl rfl ?_
    refine J_aload_n C iX8_digest_79 rfl rfl ?_
    refine J_get (.ref (a 0)) 0 C iX8_digest_80 gf_X8_52 rfl rfl ?_
    refine J_get (.int (nI N)) 9 C iX8_digest_83 gf_X8_95 rfl rfl ?_
    refine J_icmpge 233 C iX8_digest_86 rfl (fun h86 => absurd h86 (nI_ge hi (by omega))) (fun h86 => ?_)
    refine J_lload_n C iX8_digest_89 rfl rfl ?_
    refine J_ldc2 31 C iX8_digest_90 (tsg_in (i := 716) (by decide +kernel) rfl) ?_
    refine J_lmul C iX8_digest_93 ?_
    refine J_aload_n C iX8_digest_94 rfl rfl ?_
    refine J_get (.ref (a 0)) 0 C iX8_digest_95 gf_X8_52 rfl rfl ?_
    refine J_iload_n C iX8_digest_98 rfl rfl ?_
    refine J_cVb (As := [.int (nI i)]) (st := .long (d5 * 31) :: []) (rc2 := (rmK 5).cells) (rs2 := (rmK 5).slots) C iX8_digest_99 lm_X8_122 yc_X5_place yv_X5_place c_X5_place (q0 := 0) rfl rfl rfl (wRg Z x t b p h r a e er ++ wSt Z e nt dgt cot lit pPt pHt pFt pTt pSt pDt pCt) (((((wRk Z r h sk ss ++ wBk Z h L (nI N) (nI u) sc nm bP bH op f1 f2 l0 l1 l2 l3 l4 l5) ++ wBk Z b Ld hcd lcd scd nmd bPd bHd opd f1d f2d l0d l1d l2d l3d l4d l5d) ++ wPa Z p kk b ti si nk br fl fa y0 y1 y2 y3 y4 y5) ++ wTk Z kk t ct kf0 sf0 vf0) ++ wTp Z t (nI tm) tb) rfl rfl ⟨by decide, by decide⟩ (Nat.le_of_ble_eq_true rfl) rfl rfl ?_
    rintro _ _ ⟨rfl, rfl⟩
    refine J_st (.int (stAt (nI N) (nI i) pP (-1)) :: .long (d5 * 31) :: []) rfl ?_
    refine J_ws ((((((((wRg Z x t b p h r a e er ++ wSt Z e nt dgt cot lit pPt pHt pFt pTt pSt pDt pCt) ++ wSt Z a (nI N) dg co li pP pH pF pT pS pD pC) ++ wRk Z r h sk ss) ++ wBk Z h L (nI N) (nI u) sc nm bP bH op f1 f2 l0 l1 l2 l3 l4 l5) ++ wBk Z b Ld hcd lcd scd nmd bPd bHd opd f1d f2d l0d l1d l2d l3d l4d l5d) ++ wPa Z p kk b ti si nk br fl fa y0 y1 y2 y3 y4 y5) ++ wTk Z kk t ct kf0 sf0 vf0) ++ wTp Z t (nI tm) tb) rfl ?_
    refine J_i2l C iX8_digest_102 ?_
    refine J_ladd C iX8_digest_103 ?_
    refine J_lstore_n [(1, .long ((d5 * 31) + ((stAt (nI N) (nI i) pP (-1)).toInt64))), (3, .int (nI i)), (0, .ref (x 0))] C iX8_digest_104 rfl (by decide) rfl ?_
    refine J_lload_n C iX8_digest_105 rfl rfl ?_
    refine J_ldc2 31 C iX8_digest_106 (tsg_in (i := 716) (by decide +kernel) rfl) ?_
    refine J_lmul C iX8_digest_109 ?_
    refine J_aload_n C iX8_digest_110 rfl rfl ?_
    refine J_get (.ref (a 0)) 0 C iX8_digest_111 gf_X8_52 rfl rfl ?_
    refine J_iload_n C iX8_digest_114 rfl rfl ?_
    refine J_cVb (As := [.int (nI i)]) (st := .long (((d5 * 31) + ((stAt (nI N) (nI i) pP (-1)).toInt64)) * 31) :: []) (rc2 := (rmK 5).cells) (rs2 := (rmK 5).slots) C iX8_digest_115 lm_X8_125 yc_X5_height yv_X5_height c_X5_height (q0 := 0) rfl rfl rfl (wRg Z x t b p h r a e er ++ wSt Z e nt dgt cot lit pPt pHt pFt pTt pSt pDt pCt) (((((wRk Z r h sk ss ++ wBk Z h L (nI N) (nI u) sc nm bP bH op f1 f2 l0 l1 l2 l3 l4 l5) ++ wBk Z b Ld hcd lcd scd nmd bPd bHd opd f1d f2d l0d l1d l2d l3d l4d l5d) ++ wPa Z p kk b ti si nk br fl fa y0 y1 y2 y3 y4 y5) ++ wTk Z kk t ct kf0 sf0 vf0) ++ wTp Z t (nI tm) tb) rfl rfl ⟨by decide, by decide⟩ (Nat.le_of_ble_eq_true rfl) rfl rfl ?_
    rintro _ _ ⟨rfl, rfl⟩
    refine J_st (.int (stAt (nI N) (nI i) pH 0) :: .long (((d5 * 31) + ((stAt (nI N) (nI i) pP (-1)).toInt64)) * 31) :: []) rfl ?_
    refine J_ws ((((((((wRg Z x t b p h r a e er ++ wSt Z e nt dgt cot lit pPt pHt pFt pTt pSt pDt pCt) ++ wSt Z a (nI N) dg co li pP pH pF pT pS pD pC) ++ wRk Z r h sk ss) ++ wBk Z h L (nI N) (nI u) sc nm bP bH op f1 f2 l0 l1 l2 l3 l4 l5) ++ wBk Z b Ld hcd lcd scd nmd bPd bHd opd f1d f2d l0d l1d l2d l3d l4d l5d) ++ wPa Z p kk b ti si nk br fl fa y0 y1 y2 y3 y4 y5) ++ wTk Z kk t ct kf0 sf0 vf0) ++ wTp Z t (nI tm) tb) rfl ?_
    refine J_i2l C iX8_digest_118 ?_
    refine J_ladd C iX8_digest_119 ?_
    refine J_lstore_n [(1, .long ((((d5 * 31) + ((stAt (nI N) (nI i) pP (-1)).toInt64)) * 31) + ((stAt (nI N) (nI i) pH 0).toInt64))), (3, .int (nI i)), (0, .ref (x 0))] C iX8_digest_120 rfl (by decide) rfl ?_
    refine J_lload_n C iX8_digest_121 rfl rfl ?_
    refine J_ldc2 31 C iX8_digest_122 (tsg_in (i := 716) (by decide +kernel) rfl) ?_
    refine J_lmul C iX8_digest_125 ?_
    refine J_aload_n C iX8_digest_126 rfl rfl ?_
    refine J_get (.ref (a 0)) 0 C iX8_digest_127 gf_X8_52 rfl rfl ?_
    refine J_iload_n C iX8_digest_130 rfl rfl ?_
    refine J_cVb (As := [.int (nI i)]) (st := .long (((((d5 * 31) + ((stAt (nI N) (nI i) pP (-1)).toInt64)) * 31) + ((stAt (nI N) (nI i) pH 0).toInt64)) * 31) :: []) (rc2 := (rmK 5).cells) (rs2 := (rmK 5).slots) C iX8_digest_131 lm_X8_128 yc_X5_firstLow yv_X5_firstLow c_X5_firstLow (q0 := 0) rfl rfl rfl (wRg Z x t b p h r a e er ++ wSt Z e nt dgt cot lit pPt pHt pFt pTt pSt pDt pCt) (((((wRk Z r h sk ss ++ wBk Z h L (nI N) (nI u) sc nm bP bH op f1 f2 l0 l1 l2 l3 l4 l5) ++ wBk Z b Ld hcd lcd scd nmd bPd bHd opd f1d f2d l0d l1d l2d l3d l4d l5d) ++ wPa Z p kk b ti si nk br fl fa y0 y1 y2 y3 y4 y5) ++ wTk Z kk t ct kf0 sf0 vf0) ++ wTp Z t (nI tm) tb) rfl rfl ⟨by decide, by decide⟩ (Nat.le_of_ble_eq_true rfl) rfl rfl ?_
    rintro _ _ ⟨rfl, rfl⟩
    refine J_st (.int (stAt (nI N) (nI i) pF (-1)) :: .long (((((d5 * 31) + ((stAt (nI N) (nI i) pP (-1)).toInt64)) * 31) + ((stAt (nI N) (nI i) pH 0).toInt64)) * 31) :: []) rfl ?_
    refine J_ws ((((((((wRg Z x t b p h r a e er ++ wSt Z e nt dgt cot lit pPt pHt pFt pTt pSt pDt pCt) ++ wSt Z a (nI N) dg co li pP pH pF pT pS pD pC) ++ wRk Z r h sk ss) ++ wBk Z h L (nI N) (nI u) sc nm bP bH op f1 f2 l0 l1 l2 l3 l4 l5) ++ wBk Z b Ld hcd lcd scd nmd bPd bHd opd f1d f2d l0d l1d l2d l3d l4d l5d) ++ wPa Z p kk b ti si nk br fl fa y0 y1 y2 y3 y4 y5) ++ wTk Z kk t ct kf0 sf0 vf0) ++ wTp Z t (nI tm) tb) rfl ?_
    refine J_i2l C iX8_digest_134 ?_
    refine J_ladd C iX8_digest_135 ?_
    refine J_lstore_n [(1, .long ((((((d5 * 31) + ((stAt (nI N) (nI i) pP (-1)).toInt64)) * 31) + ((stAt (nI N) (nI i) pH 0).toInt64)) * 31) + ((stAt (nI N) (nI i) pF (-1)).toInt64))), (3, .int (nI i)), (0, .ref (x 0))] C iX8_digest_136 rfl (by decide) rfl ?_
    refine J_lload_n C iX8_digest_137 rfl rfl ?_
    refine J_ldc2 31 C iX8_digest_138 (tsg_in (i := 716) (by decide +kernel) rfl) ?_
    refine J_lmul C iX8_digest_141 ?_
    refine J_aload_n C iX8_digest_142 rfl rfl ?_
    refine J_get (.ref (a 0)) 0 C iX8_digest_143 gf_X8_52 rfl rfl ?_
    refine J_iload_n C iX8_digest_146 rfl rfl ?_
    refine J_cVb (As := [.int (nI i)]) (st := .long (((((((d5 * 31) + ((stAt (nI N) (nI i) pP (-1)).toInt64)) * 31) + ((stAt (nI N) (nI i) pH 0).toInt64)) * 31) + ((stAt (nI N) (nI i) pF (-1)).toInt64)) * 31) :: []) (rc2 := (rmK 5).cells) (rs2 := (rmK 5).slots) C iX8_digest_147 lm_X8_134 yc_X5_lastLow yv_X5_lastLow c_X5_lastLow (q0 := 0) rfl rfl rfl (wRg Z x t b p h r a e er ++ wSt Z e nt dgt cot lit pPt pHt pFt pTt pSt pDt pCt) (((((wRk Z r h sk ss ++ wBk Z h L (nI N) (nI u) sc nm bP bH op f1 f2 l0 l1 l2 l3 l4 l5) ++ wBk Z b Ld hcd lcd scd nmd bPd bHd opd f1d f2d l0d l1d l2d l3d l4d l5d) ++ wPa Z p kk b ti si nk br fl fa y0 y1 y2 y3 y4 y5) ++ wTk Z kk t ct kf0 sf0 vf0) ++ wTp Z t (nI tm) tb) rfl rfl ⟨by decide, by decide⟩ (Nat.le_of_ble_eq_true rfl) rfl rfl ?_
    rintro _ _ ⟨rfl, rfl⟩
    refine J_st (.int (stAt (nI N) (nI i) pT (-1)) :: .long (((((((d5 * 31) + ((stAt (nI N) (nI i) pP (-1)).toInt64)) * 31) + ((stAt (nI N) (nI i) pH 0).toInt64)) * 31) + ((stAt (nI N) (nI i) pF (-1)).toInt64)) * 31) :: []) rfl ?_
    refine J_ws ((((((((wRg Z x t b p h r a e er ++ wSt Z e nt dgt cot lit pPt pHt pFt pTt pSt pDt pCt) ++ wSt Z a (nI N) dg co li pP pH pF pT pS pD pC) ++ wRk Z r h sk ss) ++ wBk Z h L (nI N) (nI u) sc nm bP bH op f1 f2 l0 l1 l2 l3 l4 l5) ++ wBk Z b Ld hcd lcd scd nmd bPd bHd opd f1d f2d l0d l1d l2d l3d l4d l5d) ++ wPa Z p kk b ti si nk br fl fa y0 y1 y2 y3 y4 y5) ++ wTk Z kk t ct kf0 sf0 vf0) ++ wTp Z t (nI tm) tb) rfl ?_
    refine J_i2l C iX8_digest_150 ?_
    refine J_ladd C iX8_digest_151 ?_
    refine J_lstore_n [(1, .long ((((((((d5 * 31) + ((stAt (nI N) (nI i) pP (-1)).toInt64)) * 31) + ((stAt (nI N) (nI i) pH 0).toInt64)) * 31) + ((stAt (nI N) (nI i) pF (-1)).toInt64)) * 31) + ((stAt (nI N) (nI i) pT (-1)).toInt64))), (3, .int (nI i)), (0, .ref (x 0))] C iX8_digest_152 rfl (by decide) rfl ?_
    refine J_lload_n C iX8_digest_153 rfl rfl ?_
    refine J_ldc2 31 C iX8_digest_154 (tsg_in (i := 716) (by decide +kernel) rfl) ?_
    refine J_lmul C iX8_digest_157 ?_
    refine J_aload_n C iX8_digest_158 rfl rfl ?_
    refine J_get (.ref (a 0)) 0 C iX8_digest_159 gf_X8_52 rfl rfl ?_
    refine J_iload_n C iX8_digest_162 rfl rfl ?_
    refine J_cVb (As := [.int (nI i)]) (st := .long (((((((((d5 * 31) + ((stAt (nI N) (nI i) pP (-1)).toInt64)) * 31) + ((stAt (nI N) (nI i) pH 0).toInt64)) * 31) + ((stAt (nI N) (nI i) pF (-1)).toInt64)) * 31) + ((stAt (nI N) (nI i) pT (-1)).toInt64)) * 31) :: []) (rc2 := (rmK 5).cells) (rs2 := (rmK 5).slots) C iX8_digest_163 lm_X8_110 yc_X5_lost yv_X5_lost c_X5_lost (q0 := 0) rfl rfl rfl (wRg Z x t b p h r a e er ++ wSt Z e nt dgt cot lit pPt pHt pFt pTt pSt pDt pCt) (((((wRk Z r h sk ss ++ wBk Z h L (nI N) (nI u) sc nm bP bH op f1 f2 l0 l1 l2 l3 l4 l5) ++ wBk Z b Ld hcd lcd scd nmd bPd bHd opd f1d f2d l0d l1d l2d l3d l4d l5d) ++ wPa Z p kk b ti si nk br fl fa y0 y1 y2 y3 y4 y5) ++ wTk Z kk t ct kf0 sf0 vf0) ++ wTp Z t (nI tm) tb) rfl rfl ⟨by decide, by decide⟩ (Nat.le_of_ble_eq_true rfl) rfl rfl ?_
    rintro _ _ ⟨rfl, rfl⟩
    refine J_st (.int (bitC (stAt (nI N) (nI i) pD 0)) :: .long (((((((((d5 * 31) + ((stAt (nI N) (nI i) pP (-1)).toInt64)) * 31) + ((stAt (nI N) (nI i) pH 0).toInt64)) * 31) + ((stAt (nI N) (nI i) pF (-1)).toInt64)) * 31) + ((stAt (nI N) (nI i) pT (-1)).toInt64)) * 31) :: []) rfl ?_
    refine J_ws ((((((((wRg Z x t b p h r a e er ++ wSt Z e nt dgt cot lit pPt pHt pFt pTt pSt pDt pCt) ++ wSt Z a (nI N) dg co li pP pH pF pT pS pD pC) ++ wRk Z r h sk ss) ++ wBk Z h L (nI N) (nI u) sc nm bP bH op f1 f2 l0 l1 l2 l3 l4 l5) ++ wBk Z b Ld hcd lcd scd nmd bPd bHd opd f1d f2d l0d l1d l2d l3d l4d l5d) ++ wPa Z p kk b ti si nk br fl fa y0 y1 y2 y3 y4 y5) ++ wTk Z kk t ct kf0 sf0 vf0) ++ wTp Z t (nI tm) tb) rfl ?_
    refine J_i2l C iX8_digest_166 ?_
    refine J_ladd C iX8_digest_167 ?_
    refine J_lstore_n [(1, .long ((((((((((d5 * 31) + ((stAt (nI N) (nI i) pP (-1)).toInt64)) * 31) + ((stAt (nI N) (nI i) pH 0).toInt64)) * 31) + ((stAt (nI N) (nI i) pF (-1)).toInt64)) * 31) + ((stAt (nI N) (nI i) pT (-1)).toInt64)) * 31) + ((bitC (stAt (nI N) (nI i) pD 0)).toInt64))), (3, .int (nI i)), (0, .ref (x 0))] C iX8_digest_168 rfl (by decide) rfl ?_
    refine J_lload_n C iX8_digest_169 rfl rfl ?_
    refine J_ldc2 31 C iX8_digest_170 (tsg_in (i := 716) (by decide +kernel) rfl) ?_
    refine J_lmul C iX8_digest_173 ?_
    refine J_aload_n C iX8_digest_174 rfl rfl ?_
    refine J_get (.ref (a 0)) 0 C iX8_digest_175 gf_X8_52 rfl rfl ?_
    refine J_iload_n C iX8_digest_178 rfl rfl ?_
    refine J_cVb (As := [.int (nI i)]) (st := .long (((((((((((d5 * 31) + ((stAt (nI N) (nI i) pP (-1)).toInt64)) * 31) + ((stAt (nI N) (nI i) pH 0).toInt64)) * 31) + ((stAt (nI N) (nI i) pF (-1)).toInt64)) * 31) + ((stAt (nI N) (nI i) pT (-1)).toInt64)) * 31) + ((bitC (stAt (nI N) (nI i) pD 0)).toInt64)) * 31) :: []) (rc2 := (rmK 5).cells) (rs2 := (rmK 5).slots) C iX8_digest_179 lm_X8_116 yc_X5_cast yv_X5_cast c_X5_cast (q0 := 0) rfl rfl rfl (wRg Z x t b p h r a e er ++ wSt Z e nt dgt cot lit pPt pHt pFt pTt pSt pDt pCt) (((((wRk Z r h sk ss ++ wBk Z h L (nI N) (nI u) sc nm bP bH op f1 f2 l0 l1 l2 l3 l4 l5) ++ wBk Z b Ld hcd lcd scd nmd bPd bHd opd f1d f2d l0d l1d l2d l3d l4d l5d) ++ wPa Z p kk b ti si nk br fl fa y0 y1 y2 y3 y4 y5) ++ wTk Z kk t ct kf0 sf0 vf0) ++ wTp Z t (nI tm) tb) rfl rfl ⟨by decide, by decide⟩ (Nat.le_of_ble_eq_true rfl) rfl rfl ?_
    rintro _ _ ⟨rfl, rfl⟩
    refine J_st (.int (stAt (nI N) (nI i) pC 0) :: .long (((((((((((d5 * 31) + ((stAt (nI N) (nI i) pP (-1)).toInt64)) * 31) + ((stAt (nI N) (nI i) pH 0).toInt64)) * 31) + ((stAt (nI N) (nI i) pF (-1)).toInt64)) * 31) + ((stAt (nI N) (nI i) pT (-1)).toInt64)) * 31) + ((bitC (stAt (nI N) (nI i) pD 0)).toInt64)) * 31) :: []) rfl ?_
    refine J_ws ((((((((wRg Z x t b p h r a e er ++ wSt Z e nt dgt cot lit pPt pHt pFt pTt pSt pDt pCt) ++ wSt Z a (nI N) dg co li pP pH pF pT pS pD pC) ++ wRk Z r h sk ss) ++ wBk Z h L (nI N) (nI u) sc nm bP bH op f1 f2 l0 l1 l2 l3 l4 l5) ++ wBk Z b Ld hcd lcd scd nmd bPd bHd opd f1d f2d l0d l1d l2d l3d l4d l5d) ++ wPa Z p kk b ti si nk br fl fa y0 y1 y2 y3 y4 y5) ++ wTk Z kk t ct kf0 sf0 vf0) ++ wTp Z t (nI tm) tb) rfl ?_
    refine J_i2l C iX8_digest_182 ?_
    refine J_ladd C iX8_digest_183 ?_
    refine J_lstore_n [(1, .long ((((((((((((d5 * 31) + ((stAt (nI N) (nI i) pP (-1)).toInt64)) * 31) + ((stAt (nI N) (nI i) pH 0).toInt64)) * 31) + ((stAt (nI N) (nI i) pF (-1)).toInt64)) * 31) + ((stAt (nI N) (nI i) pT (-1)).toInt64)) * 31) + ((bitC (stAt (nI N) (nI i) pD 0)).toInt64)) * 31) + ((stAt (nI N) (nI i) pC 0).toInt64))), (3, .int (nI i)), (0, .ref (x 0))] C iX8_digest_184 rfl (by decide) rfl ?_
    refine J_iconst 0 C iX8_digest_185 rfl ?_
    refine J_istore [(4, .int 0), (1, .long ((((((((((((d5 * 31) + ((stAt (nI N) (nI i) pP (-1)).toInt64)) * 31) + ((stAt (nI N) (nI i) pH 0).toInt64)) * 31) + ((stAt (nI N) (nI i) pF (-1)).toInt64)) * 31) + ((stAt (nI N) (nI i) pT (-1)).toInt64)) * 31) + ((bitC (stAt (nI N) (nI i) pD 0)).toInt64)) * 31) + ((stAt (nI N) (nI i) pC 0).toInt64))), (3, .int (nI i)), (0, .ref (x 0))] C iX8_digest_186 (by decide) rfl ?_
    rw [← hI]
    refine J_lvm [(1, .long (dg6 N pP pH pF pT pD pC i (dgO N pP pH pF pT pS pD pC (dg0 N u dg co li (cntN (ltB N pD) N)) i))), (4, .int 0), (3, .int (nI i)), (0, .ref (x 0))] (by rfl) ?_
    refine J_forI (σ := Int64) (fun k q => [(1, .long q), (4, .int (nI k)), (3, .int (nI i)), (0, .ref (x 0))]) (fun k q => ((((((((wRg Z x t b p h r a e er ++ wSt Z e nt dgt cot lit pPt pHt pFt pTt pSt pDt pCt) ++ wSt Z a (nI N) dg co li pP pH pF pT pS pD pC) ++ wRk Z r h sk ss) ++ wBk Z h L (nI N) (nI u) sc nm bP bH op f1 f2 l0 l1 l2 l3 l4 l5) ++ wBk Z b Ld hcd lcd scd nmd bPd bHd opd f1d f2d l0d l1d l2d l3d l4d l5d) ++ wPa Z p kk b ti si nk br fl fa y0 y1 y2 y3 y4 y5) ++ wTk Z kk t ct kf0 sf0 vf0) ++ wTp Z t (nI tm) tb)) (fun k q => dgI N pS i (dg6 N pP pH pF pT pD pC i (dgO N pP pH pF pT pS pD pC (dg0 N u dg co li (cntN (ltB N pD) N)) i)) k = q) N 0 ((dg6 N pP pH pF pT pD pC i (dgO N pP pH pF pT pS pD pC (dg0 N u dg co li (cntN (ltB N pD) N)) i))) (by omega) rfl ?_ ?_
    · rintro d6 hJ
      refine J_iload C iX8_digest_188 rfl ?_
      refine J_aload_n C iX8_digest_190 rfl rfl ?_
      refine J_get (.ref (a 0)) 0 C iX8_digest_191 gf_X8_52 rfl rfl ?_
      refine J_get (.int (nI N)) 9 C iX8_digest_194 gf_X8_95 rfl rfl ?_
      refine J_icmpge 227 C iX8_digest_197 rfl (fun h197 => ?_) (fun h197 => absurd (nI_le (Nat.le_refl N) (by omega)) h197)
      refine J_iinc ((nI i) + 1) [(3, .int ((nI i) + 1)), (1, .long d6), (4, .int (nI N)), (0, .ref (x 0))] C iX8_digest_227 rfl rfl (by decide) rfl ?_
      rw [show (nI i) + 1 = nI (i + 1) from nI_add _ _]
      refine J_goto 78 C iX8_digest_230 rfl ?_
      refine J_lvm [(1, .long d6), (3, .int (nI (i + 1))), (0, .ref (x 0))] rfl ?_
      exact ih (d6) (by rw [dgO]; exact hJ)
    · rintro k d6 hk0 hk hJ ihj
      refine J_iload C iX8_digest_188 rfl ?_
      refine J_aload_n C iX8_digest_190 rfl rfl ?_
      refine J_get (.ref (a 0)) 0 C iX8_digest_191 gf_X8_52 rfl rfl ?_
      refine J_get (.int (nI N)) 9 C iX8_digest_194 gf_X8_95 rfl rfl ?_
      refine J_icmpge 227 C iX8_digest_197 rfl (fun h197 => absurd h197 (nI_ge hk (by omega))) (fun h197 => ?_)
      refine J_lload_n C iX8_digest_200 rfl rfl ?_
      refine J_ldc2 31 C iX8_digest_201 (tsg_in (i := 716) (by decide +kernel) rfl) ?_
      refine J_lmul C iX8_digest_204 ?_
      refine J_aload_n C iX8_digest_205 rfl rfl ?_
      refine J_get (.ref (a 0)) 0 C iX8_digest_206 gf_X8_52 rfl rfl ?_
      refine J_iload_n C iX8_digest_209 rfl rfl ?_
      refine J_iload C iX8_digest_210 rfl ?_
      refine J_cVb (As := [.int (nI i), .int (nI k)]) (st := .long (d6 * 31) :: []) (rc2 := (rmK 5).cells) (rs2 := (rmK 5).slots) C iX8_digest_212 lm_X8_137 yc_X5_hoursShaded yv_X5_hoursShaded c_X5_hoursShaded (q0 := 0) rfl rfl rfl (wRg Z x t b p h r a e er ++ wSt Z e nt dgt cot lit pPt pHt pFt pTt pSt pDt pCt) (((((wRk Z r h sk ss ++ wBk Z h L (nI N) (nI u) sc nm bP bH op f1 f2 l0 l1 l2 l3 l4 l5) ++ wBk Z b Ld hcd lcd scd nmd bPd bHd opd f1d f2d l0d l1d l2d l3d l4d l5d) ++ wPa Z p kk b ti si nk br fl fa y0 y1 y2 y3 y4 y5) ++ wTk Z kk t ct kf0 sf0 vf0) ++ wTp Z t (nI tm) tb) rfl rfl ⟨by decide, by decide⟩ (Nat.le_of_ble_eq_true rfl) rfl rfl ?_
      rintro _ _ ⟨rfl, rfl⟩
      refine J_st (.int (shF (nI N) pS (nI i) (nI k)) :: .long (d6 * 31) :: []) rfl ?_
      refine J_ws ((((((((wRg Z x t b p h r a e er ++ wSt Z e nt dgt cot lit pPt pHt pFt pTt pSt pDt pCt) ++ wSt Z a (nI N) dg co li pP pH pF pT pS pD pC) ++ wRk Z r h sk ss) ++ wBk Z h L (nI N) (nI u) sc nm bP bH op f1 f2 l0 l1 l2 l3 l4 l5) ++ wBk Z b Ld hcd lcd scd nmd bPd bHd opd f1d f2d l0d l1d l2d l3d l4d l5d) ++ wPa Z p kk b ti si nk br fl fa y0 y1 y2 y3 y4 y5) ++ wTk Z kk t ct kf0 sf0 vf0) ++ wTp Z t (nI tm) tb) rfl ?_
      refine J_cSp (As := [.int (shF (nI N) pS (nI i) (nI k))]) (st := .long (d6 * 31) :: []) C iX8_digest_215 lm_X8_141 yc_J6_bitCount_0f7a4 ys_J6_bitCount_0f7a4 c_J6_bitCount_0f7a4 rfl ⟨by decide, by decide⟩ (Nat.le_of_ble_eq_true rfl) ⟨rfl, rfl⟩ ?_
      rintro _ rfl
      refine J_st (.int (bitC (shF (nI N) pS (nI i) (nI k))) :: .long (d6 * 31) :: []) rfl ?_
      refine J_i2l C iX8_digest_218 ?_
      refine J_ladd C iX8_digest_219 ?_
      refine J_lstore_n [(1, .long ((d6 * 31) + ((bitC (shF (nI N) pS (nI i) (nI k))).toInt64))), (4, .int (nI k)), (3, .int (nI i)), (0, .ref (x 0))] C iX8_digest_220 rfl (by decide) rfl ?_
      refine J_iinc ((nI k) + 1) [(4, .int ((nI k) + 1)), (1, .long ((d6 * 31) + ((bitC (shF (nI N) pS (nI i) (nI k))).toInt64))), (3, .int (nI i)), (0, .ref (x 0))] C iX8_digest_221 rfl rfl (by decide) rfl ?_
      rw [show (nI k) + 1 = nI (k + 1) from nI_add _ _]
      refine J_goto 188 C iX8_digest_224 rfl ?_
      refine J_lvm [(1, .long ((d6 * 31) + ((bitC (shF (nI N) pS (nI i) (nI k))).toInt64))), (4, .int (nI (k + 1))), (3, .int (nI i)), (0, .ref (x 0))] rfl ?_
      exact ihj ((d6 * 31) + ((bitC (shF (nI N) pS (nI i) (nI k))).toInt64)) (by rw [dgI, hJ]; rfl)

