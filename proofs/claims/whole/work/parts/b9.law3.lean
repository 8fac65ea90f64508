set_option maxRecDepth 100000 in
set_option maxHeartbeats 8000000 in
/-- case 2: teach -/
theorem law_2 {Z : GZ} {X : CX} {Q : State → Prop} {rc rs : Nat} (C : Cx Z X cL_law 9 RL) (hV : VN (cS X)) (hl : (cL X).stackTraces = false) {b L i : Nat} {xs : Nat → Int32} (S : Sc X b L xs) (hL : L ≤ 3072) (hi : i + 6 ≤ L) {x mo ou : Nat → Nat} {f : Nat → Int64} {w1 w2 : va_W} {th : Int32} {N u tm : Nat} {er dg co : Int32} {pP pH pF pT op f1 f2 l0 tb : Nat → Int32} {hh c0 c1 c2 c3 : Nat → Nat} (hC : CI Z x N u tm er dg co pP pH pF pT op f1 f2 l0 hh c0 c1 c2 c3 tb w1) (hM : MI Z mo th N u tm er dg co pP pH pF pT op f1 f2 l0 hh c0 c1 c2 c3 tb w2) (next : ∀ w9, LI Z x mo ou w9 → Jd Z X room_1 9 Q rc rs 2021 [(4, .int (nI i)), (0, .ref b), (1, .ref (x 0)), (2, .ref (mo 0)), (3, .ref (ou 0))] [] w9) : Jd Z X room_1 9 Q (rc + 16) (rs + 3000) 364 [(4, .int (nI i)), (0, .ref b), (1, .ref (x 0)), (2, .ref (mo 0)), (3, .ref (ou 0))] [] ((wOu Z ou f ++ w1) ++ w2) := by
  refine CI.elim hC (fun t_1 b_1 p_1 h_1 r_1 a_1 e_1 kk_1 L_1 Ld_1 nk_1 li_1 sk_1 scd_1 hcd_1 lcd_1 sc_1 ct_1 ti_1 si_1 fl_1 fa_1 nt_1 dgt_1 cot_1 lit_1 y0_1 y1_1 y2_1 y3_1 y4_1 y5_1 br_1 ss_1 pS_1 pD_1 pC_1 bP_1 bH_1 l1_1 l2_1 l3_1 l4_1 l5_1 bPd_1 bHd_1 opd_1 f1d_1 f2d_1 l0d_1 l1d_1 l2d_1 l3d_1 l4d_1 l5d_1 sf0_1 pPt_1 pHt_1 pFt_1 pTt_1 pSt_1 pDt_1 pCt_1 nm_1 nmd_1 vf0_1 kf0_1 hs e9 hst hlw => ?_)
  subst e9
  refine MI.elim hM (fun pl_2 tk_2 dp_2 lr_2 mn_2 kn_2 hn_2 va_2 ha_2 hg_2 dz_2 wh_2 bg_2 en_2 od_2 wi_2 al_2 tp_2 kd_2 fr_2 me_2 wo_2 kh_2 kf_2 kl_2 sh_2 dk_2 sk_2 S_2 _ e9 hkn hS4 hrow hlaw htp => ?_)
  subst e9
  refine J_aload_n C iL_law_364 rfl rfl ?_
  refine J_cVb (ci := 7) (q0 := 0) (As := []) (st := []) (rc2 := (rc + 16)) (rs2 := (rs + 3000)) (w0 := ((((((((wRg Z x t_1 b_1 p_1 h_1 r_1 a_1 e_1 er ++ wSt Z e_1 nt_1 dgt_1 cot_1 lit_1 pPt_1 pHt_1 pFt_1 pTt_1 pSt_1 pDt_1 pCt_1) ++ wSt Z a_1 (nI N) dg co li_1 pP pH pF pT pS_1 pD_1 pC_1) ++ wRk Z r_1 h_1 sk_1 ss_1) ++ wBk Z h_1 L_1 (nI N) (nI u) sc_1 nm_1 bP_1 bH_1 op f1 f2 l0 l1_1 l2_1 l3_1 l4_1 l5_1) ++ wBk Z b_1 Ld_1 hcd_1 lcd_1 scd_1 nmd_1 bPd_1 bHd_1 opd_1 f1d_1 f2d_1 l0d_1 l1d_1 l2d_1 l3d_1 l4d_1 l5d_1) ++ wPa Z p_1 kk_1 b_1 ti_1 si_1 nk_1 br_1 fl_1 fa_1 y0_1 y1_1 y2_1 y3_1 y4_1 y5_1) ++ wTk Z kk_1 t_1 ct_1 kf0_1 sf0_1 vf0_1) ++ wTp Z t_1 (nI tm) tb)) C iL_law_365 lm_L_118 yc_X8_teach yv_X8_teach c_X8_teach rfl rfl rfl (wOu Z ou f) (wMd Z mo pl_2 th (nI tm) er tk_2 dp_2 lr_2 dg co kn_2 tp_2 kd_2 fr_2 me_2 va_2 wo_2 pP pH pF pT kh_2 kf_2 kl_2 sh_2 dk_2 sk_2 ++ wPl Z pl_2 (nI N) (nI u) mn_2 hn_2 ha_2 hg_2 dz_2 wh_2 bg_2 en_2 od_2 wi_2 al_2) rfl rfl ⟨Nat.le_of_ble_eq_true rfl, Nat.le_of_ble_eq_true rfl⟩ (Nat.le_of_ble_eq_true rfl) (by show rc + 16 = 0 + (rc + 16); omega) (by show rs + 3000 = 0 + (rs + 3000); omega) ?_
  rintro _ w11 ⟨i2, b2, e2, a2, s2, o2, g2, j2, m2, nm2, bP2, bH2, u2, l0x2, l1x2, l2x2, l3x2, l4x2, l5x2, y0x2, y1x2, y2x2, y3x2, y4x2, y5x2, hRd, hi2, hs2, hm2, hu2, hA⟩
  rcases hA with ⟨he, rfl, hw1⟩ | ⟨he, rfl, li4, S4, D4, C4, hok4, hw1⟩
  · refine J_st (.int e2 :: []) rfl ?_
    refine J_aload_n C iL_law_368 rfl rfl ?_
    refine J_cVb (ci := 9) (q0 := 0) (As := []) (st := .int e2 :: []) (rc2 := (rc + 5)) (rs2 := (rs + 423)) (w0 := (wMd Z mo pl_2 th (nI tm) er tk_2 dp_2 lr_2 dg co kn_2 tp_2 kd_2 fr_2 me_2 va_2 wo_2 pP pH pF pT kh_2 kf_2 kl_2 sh_2 dk_2 sk_2 ++ wPl Z pl_2 (nI N) (nI u) mn_2 hn_2 ha_2 hg_2 dz_2 wh_2 bg_2 en_2 od_2 wi_2 al_2)) C iL_law_369 lm_L_121 yc_X10_teach yv_X10_teach (c_X10_teach (sf0 := sf0_1) (vf0 := vf0_1) (o := opd_1) (g := f1d_1) (j := f2d_1) (bP := bPd_1) (bH := bHd_1) (l0 := l0d_1) (l1 := l1d_1) (l2 := l2d_1) (l3 := l3d_1) (l4 := l4d_1) (l5 := l5d_1) (nm := nmd_1) hs.2.2.1 htp) rfl rfl rfl (wOu Z ou f ++ w11) [] (by simp only [List.append_nil]) rfl ⟨Nat.le_of_ble_eq_true rfl, Nat.le_of_ble_eq_true rfl⟩ (Nat.le_of_ble_eq_true rfl) (by show rc + 16 = 11 + (rc + 5); omega) (by show rs + 3000 = 2577 + (rs + 423); omega) ?_
    rintro _ w22 ⟨e3, ea3, tk3, dp3, lr3, kd3, fr3, me3, va3, wo3, hB⟩
    rcases hB with ⟨hne, hX1, hX2, rfl, hw2⟩ | ⟨he3, pn, i9, b9, a9, s9, o9, g9, j9, m9, nm9, bP9, bH9, u9, l09, l19, l29, l39, l49, l59, hn7, ha7, hh7, dz7, wh7, bg7, en7, od7, wi7, al7, hX9, hPO, rfl, hw2⟩
    · rw [hRd] at hX1 hX2
      dsimp only at hX1 hX2
      refine J_st (.int e3 :: .int e2 :: []) rfl ?_
      refine J_ws ((wOu Z ou f ++ w11) ++ w22) (by simp only [List.append_nil]) ?_
      refine J_icmpeq 2021 C iL_law_372 rfl (fun h372 => ?_) (fun h372 => absurd hX1 h372)
      refine J_lvm [(4, .int (nI i)), (0, .ref b), (1, .ref (x 0)), (2, .ref (mo 0)), (3, .ref (ou 0))] rfl ?_
      refine J_less rc rs (by omega) (by omega) ?_
      exact next _ ⟨f, w11, w22, 0, N, u, 0, a2, dg, co, pP, pH, pF, pT, op, f1, f2, l0, hh, c0, c1, c2, c3, tb, rfl, CI.mk _ _ _ _ _ _ _ _ _ _ _ _ _ _ _ _ _ _ _ _ _ _ _ _ _ _ _ _ _ _ _ _ _ _ _ _ _ _ _ _ _ _ _ _ _ _ _ _ _ _ _ _ _ _ _ _ _ _ _ _ _ _ _ _ _ _ _ ⟨hs.1, hs.2.1, Nat.zero_le _, hs.2.2.2⟩ hw1 hst hlw, MI.mk pl_2 tk3 dp3 lr3 mn_2 kn_2 hn_2 va3 ha_2 hg_2 dz_2 wh_2 bg_2 en_2 od_2 wi_2 al_2 tp_2 kd3 fr3 me3 wo3 kh_2 kf_2 kl_2 sh_2 dk_2 sk_2 S_2 ⟨hs.1, hs.2.1, Nat.zero_le _, hs.2.2.2⟩ (by rw [hw2, hX2]; rfl) hkn hS4 hrow hlaw (fun p hp => absurd hp (Nat.not_lt_zero _))⟩
    · rw [hRd] at hX9
      exact absurd (congrArg (fun z => z.1.2.2.1) hX9) he
  · refine J_st (.int 0 :: []) rfl ?_
    refine J_aload_n C iL_law_368 rfl rfl ?_
    refine J_cVb (ci := 9) (q0 := 0) (As := []) (st := .int 0 :: []) (rc2 := (rc + 5)) (rs2 := (rs + 423)) (w0 := (wMd Z mo pl_2 th (nI tm) er tk_2 dp_2 lr_2 dg co kn_2 tp_2 kd_2 fr_2 me_2 va_2 wo_2 pP pH pF pT kh_2 kf_2 kl_2 sh_2 dk_2 sk_2 ++ wPl Z pl_2 (nI N) (nI u) mn_2 hn_2 ha_2 hg_2 dz_2 wh_2 bg_2 en_2 od_2 wi_2 al_2)) C iL_law_369 lm_L_121 yc_X10_teach yv_X10_teach (c_X10_teach (sf0 := sf0_1) (vf0 := vf0_1) (o := opd_1) (g := f1d_1) (j := f2d_1) (bP := bPd_1) (bH := bHd_1) (l0 := l0d_1) (l1 := l1d_1) (l2 := l2d_1) (l3 := l3d_1) (l4 := l4d_1) (l5 := l5d_1) (nm := nmd_1) hs.2.2.1 htp) rfl rfl rfl (wOu Z ou f ++ w11) [] (by simp only [List.append_nil]) rfl ⟨Nat.le_of_ble_eq_true rfl, Nat.le_of_ble_eq_true rfl⟩ (Nat.le_of_ble_eq_true rfl) (by show rc + 16 = 11 + (rc + 5); omega) (by show rs + 3000 = 2577 + (rs + 423); omega) ?_
    rintro _ w22 ⟨e3, ea3, tk3, dp3, lr3, kd3, fr3, me3, va3, wo3, hB⟩
    rcases hB with ⟨hne, hX1, hX2, rfl, hw2⟩ | ⟨he3, pn, i9, b9, a9, s9, o9, g9, j9, m9, nm9, bP9, bH9, u9, l09, l19, l29, l39, l49, l59, hn7, ha7, hh7, dz7, wh7, bg7, en7, od7, wi7, al7, hX9, hPO, rfl, hw2⟩
    · rw [hRd] at hX1
      exact absurd (hX1.symm.trans he) hne
    · rw [hRd] at hX9
      simp only [Prod.mk.injEq] at hX9
      obtain ⟨⟨rfl, rfl, -, rfl, rfl, rfl, rfl, rfl⟩, rfl, rfl, rfl, rfl, rfl, rfl, rfl, rfl, rfl, rfl, rfl⟩ := hX9
      obtain ⟨q1, q2, q3, q4, q5, q6⟩ := hPO
      have hpok : Pok m2 bP2 := by
        have h9 := read_in (num_tk (tz := tm) (tb := tb) (vf0 := vf0_1)) 400 ((0, false, 0, -1, 0, opd_1, f1d_1, f2d_1), 0, nmd_1, bPd_1, bHd_1, 0, l0d_1, l1d_1, l2d_1, l3d_1, l4d_1, l5d_1) (sf := (sfF tm tb sf0_1 (tL tm tb + 1))) (fun _ i hi => absurd hi (Nat.not_lt_zero _)) (by rw [hRd]; exact ⟨he, hi2⟩)
        rw [hRd] at h9
        exact h9
      have hlw2 : ∀ k, k < u2 → l1x2 k = nI (l1x2 k).toNatClampNeg ∧ (l1x2 k).toNatClampNeg < m2 ∧ l2x2 k = nI (l2x2 k).toNatClampNeg ∧ l3x2 k = nI (l3x2 k).toNatClampNeg ∧ l4x2 k = nI (l4x2 k).toNatClampNeg ∧ l5x2 k = nI (l5x2 k).toNatClampNeg ∧ (l2x2 k).toNatClampNeg ≤ 400 ∧ (l3x2 k).toNatClampNeg ≤ 400 ∧ (l4x2 k).toNatClampNeg ≤ 400 ∧ (l5x2 k).toNatClampNeg ≤ 400 ∧ LawN o2 dz7 bg7 en7 s2 k (l0x2 k) (l2x2 k).toNatClampNeg (l3x2 k).toNatClampNeg (l4x2 k).toNatClampNeg (l5x2 k).toNatClampNeg := by
        intro k hk
        obtain ⟨-, a2, h0, a3, a4⟩ := q5 k hk
        obtain ⟨n2, n3, n4, n5, nL⟩ := a2.num hs2
        have e1 : (l1x2 k).toNatClampNeg = h0 := by rw [a4, nI_clamp (by omega)]
        have z1 := nL.1
        have z2 := nL.2.1
        have z3 := nL.2.2.1
        have z4 := nL.2.2.2.1
        exact ⟨by rw [e1]; exact a4, by omega, n2, n3, n4, n5, by omega, by omega, by omega, by omega, nL⟩
      have hsg : SgOk m2 u2 0 (fillN (fillN bP2 bP_1 m2) pP m2) (fillN (fun _ => -1) pF m2) (fillN (fun _ => -1) pT m2) (fun k => (l1x2 k).toNatClampNeg) (fun k => (l2x2 k).toNatClampNeg) (fun k => (l3x2 k).toNatClampNeg) (fun k => (l4x2 k).toNatClampNeg) (fun k => (l5x2 k).toNatClampNeg) := by
        refine ⟨hm2, hu2, Nat.zero_le _, fun i hi => ?_, fun i hi _ => ?_, fun k hk => ?_⟩
        · rw [fillN_in hi, fillN_in hi]; exact hpok i hi
        · rw [fillN_in hi]
        · have h9 := hlw2 k hk; exact ⟨h9.2.1, h9.2.2.2.2.2.2.1, h9.2.2.2.2.2.2.2.1, h9.2.2.2.2.2.2.2.2.1, h9.2.2.2.2.2.2.2.2.2.1⟩
      refine J_st (.int 0 :: .int 0 :: []) rfl ?_
      refine J_ws ((wOu Z ou f ++ w11) ++ w22) (by simp only [List.append_nil]) ?_
      refine J_icmpeq 2021 C iL_law_372 rfl (fun h372 => ?_) (fun h372 => absurd rfl h372)
      refine J_lvm [(4, .int (nI i)), (0, .ref b), (1, .ref (x 0)), (2, .ref (mo 0)), (3, .ref (ou 0))] rfl ?_
      refine J_less rc rs (by omega) (by omega) ?_
      refine next _ ⟨f, w11, w22, 0, m2, u2, 0, (-1), 0, 0, (fillN (fillN bP2 bP_1 m2) pP m2), (fillN (fillN bH2 bH_1 m2) pH m2), (fillN (fun _ => -1) pF m2), (fillN (fun _ => -1) pT m2), (fillN o2 op s2), (fillN g2 f1 s2), (fillN j2 f2 s2), (fillN l0x2 l0 u2), (fun k => (l1x2 k).toNatClampNeg), (fun k => (l2x2 k).toNatClampNeg), (fun k => (l3x2 k).toNatClampNeg), (fun k => (l4x2 k).toNatClampNeg), (fun k => (l5x2 k).toNatClampNeg), tb, rfl, CI.mk _ _ _ _ _ _ _ _ _ _ _ _ _ _ _ _ _ _ _ _ _ _ _ _ _ _ _ _ _ _ _ _ _ _ _ _ _ _ _ _ _ _ _ _ _ _ _ _ _ _ _ _ _ _ _ _ _ _ _ _ _ _ _ _ _ _ _ hsg hw1 hok4 (fun k hk => ?_), MI.mk pn tk3 dp3 lr3 (nI s2) false hn7 va3 ha7 hh7 dz7 wh7 bg7 en7 od7 wi7 al7 tp_2 kd3 fr3 me3 wo3 kh_2 kf_2 kl_2 sh_2 dk_2 sk_2 s2 hsg ?_ (fun q => absurd q (by decide)) hs2 (fun r hr => ?_) (fun k hk => ?_) (fun p hp => absurd hp (Nat.not_lt_zero _))⟩
      · have h9 := hlw2 k hk
        rw [fillN_in hk, fillN_in hk, fillN_in hk, fillN_in hk, fillN_in hk]
        exact ⟨h9.1, h9.2.1, h9.2.2.1, h9.2.2.2.1, h9.2.2.2.2.1, h9.2.2.2.2.2.1, h9.2.2.2.2.2.2.1, h9.2.2.2.2.2.2.2.1, h9.2.2.2.2.2.2.2.2.1, h9.2.2.2.2.2.2.2.2.2.1⟩
      · rw [hw2, fill_cc (c := bP_1) (fun k hk => (q4 k hk).2.1), fill_cc (c := bH_1) (fun k hk => (q4 k hk).2.2)]; rfl
      · rw [fillN_in hr, fillN_in hr, fillN_in hr]; exact q6 r hr
      · have h9 := hlw2 k hk
        refine ⟨?_, by rw [(q5 k hk).1]; exact h9.1, h9.2.1⟩
        rw [fillN_in hk]
        exact h9.2.2.2.2.2.2.2.2.2.2.cong (fun r hr => fillN_in hr)

set_option maxRecDepth 100000 in
set_option maxHeartbeats 4000000 in
/-- case 35: meanLost -/
theorem law_35 {Z : GZ} {X : CX} {Q : State → Prop} {rc rs : Nat} (C : Cx Z X cL_law 9 RL) (hV : VN (cS X)) (hl : (cL X).stackTraces = false) {b L i : Nat} {xs : Nat → Int32} (S : Sc X b L xs) (hL : L ≤ 3072) (hi : i + 6 ≤ L) {x mo ou : Nat → Nat} {f : Nat → Int64} {w1 w2 : va_W} {th : Int32} {N u tm : Nat} {er dg co : Int32} {pP pH pF pT op f1 f2 l0 tb : Nat → Int32} {hh c0 c1 c2 c3 : Nat → Nat} (hC : CI Z x N u tm er dg co pP pH pF pT op f1 f2 l0 hh c0 c1 c2 c3 tb w1) (hM : MI Z mo th N u tm er dg co pP pH pF pT op f1 f2 l0 hh c0 c1 c2 c3 tb w2) (next : ∀ w9, LI Z x mo ou w9 → Jd Z X room_1 9 Q rc rs 2021 [(4, .int (nI i)), (0, .ref b), (1, .ref (x 0)), (2, .ref (mo 0)), (3, .ref (ou 0))] [] w9) : Jd Z X room_1 9 Q (rc + 16) (rs + 3000) 1966 [(4, .int (nI i)), (0, .ref b), (1, .ref (x 0)), (2, .ref (mo 0)), (3, .ref (ou 0))] [] ((wOu Z ou f ++ w1) ++ w2) := by
  refine J_aload_n C iL_law_1966 rfl rfl ?_
  obtain ⟨fs1, hq1⟩ := hC.head
  refine J_cVb (ci := 7) (As := []) (st := []) (rc2 := (rc + 16)) (rs2 := (rs + 3000)) (w0 := w1) C iL_law_1967 lm_L_229 yc_X8_meanLost yv_X8_meanLost (n_X8_meanLost hC) rfl rfl hq1 (wOu Z ou f) w2 (by simp only [List.append_nil]) rfl ⟨Nat.le_of_ble_eq_true rfl, Nat.le_of_ble_eq_true rfl⟩ (Nat.le_of_ble_eq_true rfl) (by show (rc + 16) = 0 + (rc + 16); omega) (by show (rs + 3000) = 0 + (rs + 3000); omega) ?_
  rintro _ w11 ⟨rfl, hC1⟩
  refine J_st (.double (mlX N (laG N pP pH pF pT)) :: []) rfl ?_
  refine J_ws ((wOu Z ou f ++ w11) ++ w2) rfl ?_
  refine J_dstore [(5, .double (mlX N (laG N pP pH pF pT))), (4, .int (nI i)), (0, .ref b), (1, .ref (x 0)), (2, .ref (mo 0)), (3, .ref (ou 0))] C iL_law_1970 (by decide) rfl ?_
  refine J_aload_n C iL_law_1972 rfl rfl ?_
  obtain ⟨fs2, hq2⟩ := hM.head
  refine J_cVb (ci := 9) (As := []) (st := []) (rc2 := (rc + 16)) (rs2 := (rs + 3000)) (w0 := w2) C iL_law_1973 lm_L_233 yc_X10_meanLost yv_X10_meanLost (n_X10_meanLost hM) rfl rfl hq2 (wOu Z ou f ++ w11) [] (by simp only [List.append_nil]) rfl ⟨Nat.le_of_ble_eq_true rfl, Nat.le_of_ble_eq_true rfl⟩ (Nat.le_of_ble_eq_true rfl) (by show (rc + 16) = 0 + (rc + 16); omega) (by show (rs + 3000) = 0 + (rs + 3000); omega) ?_
  rintro _ w22 ⟨rfl, hM1⟩
  refine J_st (.double (mlX N (laG N pP pH pF pT)) :: []) rfl ?_
  refine J_ws ((wOu Z ou f ++ w11) ++ w22) (by simp only [List.append_nil]) ?_
  refine J_dstore [(7, .double (mlX N (laG N pP pH pF pT))), (5, .double (mlX N (laG N pP pH pF pT))), (4, .int (nI i)), (0, .ref b), (1, .ref (x 0)), (2, .ref (mo 0)), (3, .ref (ou 0))] C iL_law_1976 (by decide) rfl ?_
  refine J_dload C iL_law_1978 rfl ?_
  refine J_dload C iL_law_1980 rfl ?_
  refine J_dcmp C iL_law_1982 ?_
  refine J_ifeq 2004 C iL_law_1983 rfl (fun h1983 => ?_) (fun h1983 => ?_)
  · refine J_goto 2021 C iL_law_2004 rfl ?_
    refine J_lvm [(4, .int (nI i)), (0, .ref b), (1, .ref (x 0)), (2, .ref (mo 0)), (3, .ref (ou 0))] rfl ?_
    refine J_less rc rs (by omega) (by omega) ?_
    exact next _ ⟨f, w11, w22, _, _, _, _, _, _, _, _, _, _, _, _, _, _, _, _, _, _, _, _, _, rfl, hC1, hM1⟩
  · refine J_dload C iL_law_1986 rfl ?_
    refine J_dload C iL_law_1988 rfl ?_
    refine J_dcmp C iL_law_1990 ?_
    refine J_ifeq 2002 C iL_law_1991 rfl (fun h1991 => absurd h1991 h1983) (fun h1991 => ?_)
    refine J_dload C iL_law_1994 rfl ?_
    refine J_dload C iL_law_1996 rfl ?_
    refine J_dcmp C iL_law_1998 ?_
    refine J_ifne 2004 C iL_law_1999 rfl (fun h1999 => ?_) (fun h1999 => absurd h1999 h1983)
    refine J_goto 2021 C iL_law_2004 rfl ?_
    refine J_lvm [(4, .int (nI i)), (0, .ref b), (1, .ref (x 0)), (2, .ref (mo 0)), (3, .ref (ou 0))] rfl ?_
    refine J_less rc rs (by omega) (by omega) ?_
    exact next _ ⟨f, w11, w22, _, _, _, _, _, _, _, _, _, _, _, _, _, _, _, _, _, _, _, _, _, rfl, hC1, hM1⟩

