set_option maxRecDepth 100000 in
set_option maxHeartbeats 4000000 in
theorem c_X8_fairCurfew {Z : GZ} {l : Launch} (hl : l.stackTraces = false) {x t b p h r a e kk L Ld : Nat → Nat} {N u tm nk : Nat} {er dg co li sk scd hcd lcd sc ct ti si fl fa nt dgt cot lit y0 y1 y2 y3 y4 y5 : Int32} {br : Bool} {ss pP pH pF pT pS pD pC tb bP bH op f1 f2 l0 l1 l2 l3 l4 l5 bPd bHd opd f1d f2d l0d l1d l2d l3d l4d l5d sf0 pPt pHt pFt pTt pSt pDt pCt : Nat → Int32} {nm nmd vf0 : Nat → Int64} {kf0 : Nat → Option Nat} {q g : Int32} (hN : N ≤ 12) (ok : StOk N pP pH pF pT li pS pD pC)  : Cq Z l yX8_fairCurfew cX8_fairCurfew 6 (some .int) (rmM 10 2 12) [.ref (x 0), .int q, .int g] ((((((((wRg Z x t b p h r a e er ++ wSt Z e nt dgt cot lit pPt pHt pFt pTt pSt pDt pCt) ++ wSt Z a (nI N) dg co li pP pH pF pT pS pD pC) ++ wRk Z r h sk ss) ++ wBk Z h L (nI N) (nI u) sc nm bP bH op f1 f2 l0 l1 l2 l3 l4 l5) ++ wBk Z b Ld hcd lcd scd nmd bPd bHd opd f1d f2d l0d l1d l2d l3d l4d l5d) ++ wPa Z p kk b ti si nk br fl fa y0 y1 y2 y3 y4 y5) ++ wTk Z kk t ct kf0 sf0 vf0) ++ wTp Z t (nI tm) tb) (fun v w => ∃ li9 pF9 pT9 pS9 pD9 pC9, v = some (.int (frX (fcV N pP pH pF pT g.toNatClampNeg q.toNatClampNeg) (14 - g.toNatClampNeg)).1) ∧ w = ((((((((wRg Z x t b p h r a e er ++ wSt Z e (nI N) dg co li9 pP pH pF9 pT9 pS9 pD9 pC9) ++ wSt Z a (nI N) dg co li pP pH pF pT pS pD pC) ++ wRk Z r h sk ss) ++ wBk Z h L (nI N) (nI u) sc nm bP bH op f1 f2 l0 l1 l2 l3 l4 l5) ++ wBk Z b Ld hcd lcd scd nmd bPd bHd opd f1d f2d l0d l1d l2d l3d l4d l5d) ++ wPa Z p kk b ti si nk br fl fa y0 y1 y2 y3 y4 y5) ++ wTk Z kk t ct kf0 sf0 vf0) ++ wTp Z t (nI tm) tb) ∧ hasB (nI N) q = true ∧ ¬ (g < 1 ∨ 13 < g)) (fun E => (E = "java/lang/IndexOutOfBoundsException" ∧ ¬ hasB (nI N) q = true) ∨ (E = "java/lang/IllegalArgumentException" ∧ hasB (nI N) q = true ∧ (g < 1 ∨ 13 < g))) := by
  refine Cq.ofJ (own := RX8) (nm := "fairCurfew") (lv0 := [(0, .ref (x 0)), (1, .int q), (2, .int g)]) (by decide) rfl rfl (Nat.le_of_ble_eq_true rfl) rfl (fun X hXl C E hT => ?_)
  subst hXl
  refine J_aload_n C iX8_fairCurfew_0 rfl rfl ?_
  refine J_iload_n C iX8_fairCurfew_1 rfl rfl ?_
  refine J_xV (As := [.int q]) (st := []) (w0 := ((((((((wRg Z x t b p h r a e er ++ wSt Z e nt dgt cot lit pPt pHt pFt pTt pSt pDt pCt) ++ wSt Z a (nI N) dg co li pP pH pF pT pS pD pC) ++ wRk Z r h sk ss) ++ wBk Z h L (nI N) (nI u) sc nm bP bH op f1 f2 l0 l1 l2 l3 l4 l5) ++ wBk Z b Ld hcd lcd scd nmd bPd bHd opd f1d f2d l0d l1d l2d l3d l4d l5d) ++ wPa Z p kk b ti si nk br fl fa y0 y1 y2 y3 y4 y5) ++ wTk Z kk t ct kf0 sf0 vf0) ++ wTp Z t (nI tm) tb)) (rc2 := 1) (rs2 := 6) C E hT iX8_fairCurfew_2 lm_X8_119 yc_X8_checkHouse yv_X8_checkHouse (c_X8_checkHouse hl (q := q)) (q0 := 0) rfl rfl rfl [] [] (by simp only [List.append_assoc, List.append_nil, List.nil_append]) rfl (fun E h => Or.inl ⟨h.1, h.2⟩) rfl ⟨by decide, by decide⟩ (Nat.le_of_ble_eq_true rfl) rfl rfl ?_
  rintro _ _ ⟨rfl, rfl, hk0⟩
  refine J_st ([]) rfl ?_
  refine J_ws ((((((((wRg Z x t b p h r a e er ++ wSt Z e nt dgt cot lit pPt pHt pFt pTt pSt pDt pCt) ++ wSt Z a (nI N) dg co li pP pH pF pT pS pD pC) ++ wRk Z r h sk ss) ++ wBk Z h L (nI N) (nI u) sc nm bP bH op f1 f2 l0 l1 l2 l3 l4 l5) ++ wBk Z b Ld hcd lcd scd nmd bPd bHd opd f1d f2d l0d l1d l2d l3d l4d l5d) ++ wPa Z p kk b ti si nk br fl fa y0 y1 y2 y3 y4 y5) ++ wTk Z kk t ct kf0 sf0 vf0) ++ wTp Z t (nI tm) tb) (by simp only [List.append_assoc, List.append_nil, List.nil_append]) ?_
  obtain ⟨i, hi, rfl⟩ := hasB_ex hN hk0
  refine J_iload_n C iX8_fairCurfew_5 rfl rfl ?_
  refine J_xS (As := [.int g]) (st := []) (w0 := []) (rc2 := 0) (rs2 := 0) C E hT iX8_fairCurfew_6 lm_X8_200 yc_X8_checkCurfewHours ys_X8_checkCurfewHours (c_X8_checkCurfewHours hl (q := g)) ((((((((wRg Z x t b p h r a e er ++ wSt Z e nt dgt cot lit pPt pHt pFt pTt pSt pDt pCt) ++ wSt Z a (nI N) dg co li pP pH pF pT pS pD pC) ++ wRk Z r h sk ss) ++ wBk Z h L (nI N) (nI u) sc nm bP bH op f1 f2 l0 l1 l2 l3 l4 l5) ++ wBk Z b Ld hcd lcd scd nmd bPd bHd opd f1d f2d l0d l1d l2d l3d l4d l5d) ++ wPa Z p kk b ti si nk br fl fa y0 y1 y2 y3 y4 y5) ++ wTk Z kk t ct kf0 sf0 vf0) ++ wTp Z t (nI tm) tb) [] (by simp only [List.append_assoc, List.append_nil, List.nil_append]) rfl (fun E h => Or.inr <| ⟨h.1, hk0, h.2⟩) rfl ⟨by decide, by decide⟩ (Nat.le_of_ble_eq_true rfl) rfl rfl ?_
  rintro _ _ ⟨rfl, rfl, hk1⟩
  refine J_st ([]) rfl ?_
  refine J_ws ((((((((wRg Z x t b p h r a e er ++ wSt Z e nt dgt cot lit pPt pHt pFt pTt pSt pDt pCt) ++ wSt Z a (nI N) dg co li pP pH pF pT pS pD pC) ++ wRk Z r h sk ss) ++ wBk Z h L (nI N) (nI u) sc nm bP bH op f1 f2 l0 l1 l2 l3 l4 l5) ++ wBk Z b Ld hcd lcd scd nmd bPd bHd opd f1d f2d l0d l1d l2d l3d l4d l5d) ++ wPa Z p kk b ti si nk br fl fa y0 y1 y2 y3 y4 y5) ++ wTk Z kk t ct kf0 sf0 vf0) ++ wTp Z t (nI tm) tb) (by simp only [List.append_assoc, List.append_nil, List.nil_append]) ?_
  obtain ⟨n, hn1, hn2, rfl⟩ := hours_ex hk1
  refine J_aload_n C iX8_fairCurfew_9 rfl rfl ?_
  refine J_get (.ref (e 0)) 0 C iX8_fairCurfew_10 gf_X8_56 rfl rfl ?_
  refine J_aload_n C iX8_fairCurfew_13 rfl rfl ?_
  refine J_get (.ref (a 0)) 0 C iX8_fairCurfew_14 gf_X8_52 rfl rfl ?_
  refine J_cVb (As := [.ref (a 0)]) (st := []) (rc2 := 0) (rs2 := 0) (w0 := (wSt Z e nt dgt cot lit pPt pHt pFt pTt pSt pDt pCt ++ wSt Z a (nI N) dg co li pP pH pF pT pS pD pC)) C iX8_fairCurfew_17 lm_X8_198 yc_X5_become yv_X5_become c_X5_become (q0 := 0) rfl rfl rfl (wRg Z x t b p h r a e er) (((((wRk Z r h sk ss ++ wBk Z h L (nI N) (nI u) sc nm bP bH op f1 f2 l0 l1 l2 l3 l4 l5) ++ wBk Z b Ld hcd lcd scd nmd bPd bHd opd f1d f2d l0d l1d l2d l3d l4d l5d) ++ wPa Z p kk b ti si nk br fl fa y0 y1 y2 y3 y4 y5) ++ wTk Z kk t ct kf0 sf0 vf0) ++ wTp Z t (nI tm) tb) (by simp only [List.append_assoc, List.append_nil, List.nil_append]) rfl ⟨by decide, by decide⟩ (Nat.le_of_ble_eq_true rfl) rfl rfl ?_
  rintro _ _ ⟨rfl, rfl⟩
  refine J_st ([]) rfl ?_
  refine J_ws ((((((((wRg Z x t b p h r a e er ++ wSt Z e (nI N) dg co li pP pH pF pT pS pD pC) ++ wSt Z a (nI N) dg co li pP pH pF pT pS pD pC) ++ wRk Z r h sk ss) ++ wBk Z h L (nI N) (nI u) sc nm bP bH op f1 f2 l0 l1 l2 l3 l4 l5) ++ wBk Z b Ld hcd lcd scd nmd bPd bHd opd f1d f2d l0d l1d l2d l3d l4d l5d) ++ wPa Z p kk b ti si nk br fl fa y0 y1 y2 y3 y4 y5) ++ wTk Z kk t ct kf0 sf0 vf0) ++ wTp Z t (nI tm) tb) (by simp only [List.append_assoc, List.append_nil, List.nil_append]) ?_
  refine J_bipush 6 C iX8_fairCurfew_20 rfl ?_
  refine J_istore_n [(3, .int 6), (0, .ref (x 0)), (1, .int (nI i)), (2, .int (nI n))] C iX8_fairCurfew_22 rfl (by decide) rfl ?_
  refine J_sipush 157 C iX8_fairCurfew_23 rfl ?_
  refine J_istore [(4, .int 157), (3, .int 6), (0, .ref (x 0)), (1, .int (nI i)), (2, .int (nI n))] C iX8_fairCurfew_26 (by decide) rfl ?_
  refine J_bipush 6 C iX8_fairCurfew_28 rfl ?_
  refine J_istore [(5, .int 6), (4, .int 157), (3, .int 6), (0, .ref (x 0)), (1, .int (nI i)), (2, .int (nI n))] C iX8_fairCurfew_30 (by decide) rfl ?_
  refine J_lvm [(3, .int 6), (4, .int 157), (5, .int 6), (0, .ref (x 0)), (1, .int (nI i)), (2, .int (nI n))] (by rfl) ?_
  refine J_forI (σ := Int32 × Int32 × Int32 × (Nat → Int32) × (Nat → Int32) × (Nat → Int32) × (Nat → Int32) × (Nat → Int32)) (fun k q => [(3, .int q.1), (4, .int q.2.1), (5, .int (nI k)), (0, .ref (x 0)), (1, .int (nI i)), (2, .int (nI n))]) (fun k q => ((((((((wRg Z x t b p h r a e er ++ wSt Z e (nI N) dg co q.2.2.1 pP pH q.2.2.2.1 q.2.2.2.2.1 q.2.2.2.2.2.1 q.2.2.2.2.2.2.1 q.2.2.2.2.2.2.2) ++ wSt Z a (nI N) dg co li pP pH pF pT pS pD pC) ++ wRk Z r h sk ss) ++ wBk Z h L (nI N) (nI u) sc nm bP bH op f1 f2 l0 l1 l2 l3 l4 l5) ++ wBk Z b Ld hcd lcd scd nmd bPd bHd opd f1d f2d l0d l1d l2d l3d l4d l5d) ++ wPa Z p kk b ti si nk br fl fa y0 y1 y2 y3 y4 y5) ++ wTk Z kk t ct kf0 sf0 vf0) ++ wTp Z t (nI tm) tb)) (fun k q => StOk N pP pH q.2.2.2.1 q.2.2.2.2.1 q.2.2.1 q.2.2.2.2.2.1 q.2.2.2.2.2.2.1 q.2.2.2.2.2.2.2 ∧ (∀ x, upd q.2.2.2.1 i x = upd pF i x) ∧ (∀ x, upd q.2.2.2.2.1 i x = upd pT i x) ∧ frX (fcV N pP pH pF pT n i) (k - 6) = (q.1, q.2.1)) (20 - n) 6 (6, 157, li, pF, pT, pS, pD, pC) (by omega) ⟨ok, fun _ => rfl, fun _ => rfl, rfl⟩ ?_ ?_
  · rintro ⟨fa5, fe5, li5, pF5, pT5, pS5, pD5, pC5⟩ hI
    dsimp only at hI ⊢
    refine J_iload C iX8_fairCurfew_32 rfl ?_
    refine J_bipush 19 C iX8_fairCurfew_34 rfl ?_
    refine J_iload_n C iX8_fairCurfew_36 rfl rfl ?_
    refine J_isub C iX8_fairCurfew_37 ?_
    rw [show 19 - (nI n) = nI (19 - n) from (pk_sub (a := 19) (by omega))]
    refine J_icmpgt 88 C iX8_fairCurfew_38 rfl (fun h38 => ?_) (fun h38 => absurd (nI_lt (by omega) (by omega)) h38)
    refine J_iload_n C iX8_fairCurfew_88 rfl rfl ?_
    exact J_x2m (J_iret C E iX8_fairCurfew_89 ⟨li5, pF5, pT5, pS5, pD5, pC5, by rw [nI_clamp (by omega), nI_clamp (by omega), show 14 - n = 20 - n - 6 by omega, hI.2.2.2], rfl, hk0, hk1⟩)
  · rintro k ⟨fa5, fe5, li5, pF5, pT5, pS5, pD5, pC5⟩ hk0 hk hI ih
    dsimp only at hI ⊢
    have okI := hI.1
    refine J_iload C iX8_fairCurfew_32 rfl ?_
    refine J_bipush 19 C iX8_fairCurfew_34 rfl ?_
    refine J_iload_n C iX8_fairCurfew_36 rfl rfl ?_
    refine J_isub C iX8_fairCurfew_37 ?_
    rw [show 19 - (nI n) = nI (19 - n) from (pk_sub (a := 19) (by omega))]
    refine J_icmpgt 88 C iX8_fairCurfew_38 rfl (fun h38 => absurd h38 (nI_nlt (by omega) (by omega))) (fun h38 => ?_)
    refine J_aload_n C iX8_fairCurfew_41 rfl rfl ?_
    refine J_get (.ref (e 0)) 0 C iX8_fairCurfew_42 gf_X8_56 rfl rfl ?_
    refine J_iload_n C iX8_fairCurfew_45 rfl rfl ?_
    refine J_iload C iX8_fairCurfew_46 rfl ?_
    refine J_iload C iX8_fairCurfew_48 rfl ?_
    refine J_iload_n C iX8_fairCurfew_50 rfl rfl ?_
    refine J_iadd C iX8_fairCurfew_51 ?_
    rw [show (nI k) + (nI n) = nI (k + n) from nI_add _ _]
    refine J_iconst 1 C iX8_fairCurfew_52 rfl ?_
    refine J_isub C iX8_fairCurfew_53 ?_
    rw [show (nI (k + n)) - 1 = nI (k + n - 1) from (pk_sub (b := 1) (by omega))]
    refine J_cVb (As := [.int (nI i), .int (nI k), .int (nI (k + n - 1))]) (st := []) (rc2 := 0) (rs2 := 0) C iX8_fairCurfew_54 lm_X8_174 yc_X5_giveCurfew yv_X5_giveCurfew (c_X5_giveCurfew hN hi okI) (q0 := 0) rfl rfl rfl (wRg Z x t b p h r a e er) ((((((wSt Z a (nI N) dg co li pP pH pF pT pS pD pC ++ wRk Z r h sk ss) ++ wBk Z h L (nI N) (nI u) sc nm bP bH op f1 f2 l0 l1 l2 l3 l4 l5) ++ wBk Z b Ld hcd lcd scd nmd bPd bHd opd f1d f2d l0d l1d l2d l3d l4d l5d) ++ wPa Z p kk b ti si nk br fl fa y0 y1 y2 y3 y4 y5) ++ wTk Z kk t ct kf0 sf0 vf0) ++ wTp Z t (nI tm) tb) rfl rfl ⟨by decide, by decide⟩ (Nat.le_of_ble_eq_true rfl) rfl rfl ?_
    rintro _ _ ⟨li_1, S_1, D_1, C_1, rfl, rfl, ok_1⟩
    refine J_st (.int (b2i (!(decide (pF5 i = nI k) && decide (pT5 i = nI (k + n - 1))))) :: []) rfl ?_
    refine J_ws ((((((((wRg Z x t b p h r a e er ++ wSt Z e (nI N) dg co li_1 pP pH (upd pF5 i (nI k)) (upd pT5 i (nI (k + n - 1))) S_1 D_1 C_1) ++ wSt Z a (nI N) dg co li pP pH pF pT pS pD pC) ++ wRk Z r h sk ss) ++ wBk Z h L (nI N) (nI u) sc nm bP bH op f1 f2 l0 l1 l2 l3 l4 l5) ++ wBk Z b Ld hcd lcd scd nmd bPd bHd opd f1d f2d l0d l1d l2d l3d l4d l5d) ++ wPa Z p kk b ti si nk br fl fa y0 y1 y2 y3 y4 y5) ++ wTk Z kk t ct kf0 sf0 vf0) ++ wTp Z t (nI tm) tb) rfl ?_
    refine J_pop C iX8_fairCurfew_57 rfl ?_
    refine J_aload_n C iX8_fairCurfew_58 rfl rfl ?_
    refine J_get (.ref (e 0)) 0 C iX8_fairCurfew_59 gf_X8_56 rfl rfl ?_
    refine J_get (.int li_1) 1 C iX8_fairCurfew_62 gf_X8_107 rfl rfl ?_
    refine J_iload C iX8_fairCurfew_65 rfl ?_
    refine J_icmpge 82 C iX8_fairCurfew_67 rfl (fun h67 => ?_) (fun h67 => ?_)
    · refine J_iinc ((nI k) + 1) [(5, .int ((nI k) + 1)), (3, .int fa5), (4, .int fe5), (0, .ref (x 0)), (1, .int (nI i)), (2, .int (nI n))] C iX8_fairCurfew_82 rfl rfl (by decide) rfl ?_
      rw [show (nI k) + 1 = nI (k + 1) from nI_add _ _]
      refine J_goto 32 C iX8_fairCurfew_85 rfl ?_
      refine J_lvm [(3, .int fa5), (4, .int fe5), (5, .int (nI (k + 1))), (0, .ref (x 0)), (1, .int (nI i)), (2, .int (nI n))] rfl ?_
      have hv : (fcV N pP pH pF pT n i) k = li_1 := by rw [fcV, ← hI.2.1, ← hI.2.2.1]; exact ok_1.2.2.2.symm
      exact ih (fa5, fe5, li_1, upd pF5 i (nI k), upd pT5 i (nI (k + n - 1)), S_1, D_1, C_1) ⟨ok_1, fun x => by rw [upd_upd]; exact hI.2.1 x, fun x => by rw [upd_upd]; exact hI.2.2.1 x, by rw [frX_f hk0 (by rw [hI.2.2.2, hv]; exact Int32.not_lt.mpr h67)]; exact hI.2.2.2⟩
    · refine J_aload_n C iX8_fairCurfew_70 rfl rfl ?_
      refine J_get (.ref (e 0)) 0 C iX8_fairCurfew_71 gf_X8_56 rfl rfl ?_
      refine J_get (.int li_1) 1 C iX8_fairCurfew_74 gf_X8_107 rfl rfl ?_
      refine J_istore [(4, .int li_1), (3, .int fa5), (5, .int (nI k)), (0, .ref (x 0)), (1, .int (nI i)), (2, .int (nI n))] C iX8_fairCurfew_77 (by decide) rfl ?_
      refine J_iload C iX8_fairCurfew_79 rfl ?_
      refine J_istore_n [(3, .int (nI k)), (4, .int li_1), (5, .int (nI k)), (0, .ref (x 0)), (1, .int (nI i)), (2, .int (nI n))] C iX8_fairCurfew_81 rfl (by decide) rfl ?_
      refine J_iinc ((nI k) + 1) [(5, .int ((nI k) + 1)), (3, .int (nI k)), (4, .int li_1), (0, .ref (x 0)), (1, .int (nI i)), (2, .int (nI n))] C iX8_fairCurfew_82 rfl rfl (by decide) rfl ?_
      rw [show (nI k) + 1 = nI (k + 1) from nI_add _ _]
      refine J_goto 32 C iX8_fairCurfew_85 rfl ?_
      refine J_lvm [(3, .int (nI k)), (4, .int li_1), (5, .int (nI (k + 1))), (0, .ref (x 0)), (1, .int (nI i)), (2, .int (nI n))] rfl ?_
      have hv : (fcV N pP pH pF pT n i) k = li_1 := by rw [fcV, ← hI.2.1, ← hI.2.2.1]; exact ok_1.2.2.2.symm
      exact ih (nI k, li_1, li_1, upd pF5 i (nI k), upd pT5 i (nI (k + n - 1)), S_1, D_1, C_1) ⟨ok_1, fun x => by rw [upd_upd]; exact hI.2.1 x, fun x => by rw [upd_upd]; exact hI.2.2.1 x, by rw [frX_t hk0 (by rw [hI.2.2.2, hv]; exact Int32.not_le.mp h67), hv]⟩

set_option maxRecDepth 100000 in
set_option maxHeartbeats 4000000 in
theorem c_X8_fairestWall {Z : GZ} {l : Launch} (hl : l.stackTraces = false) {x t b p h r a e kk L Ld : Nat → Nat} {N u tm nk : Nat} {er dg co li sk scd hcd lcd sc ct ti si fl fa nt dgt cot lit y0 y1 y2 y3 y4 y5 : Int32} {br : Bool} {ss pP pH pF pT pS pD pC tb bP bH op f1 f2 l0 l1 l2 l3 l4 l5 bPd bHd opd f1d f2d l0d l1d l2d l3d l4d l5d sf0 pPt pHt pFt pTt pSt pDt pCt : Nat → Int32} {nm nmd vf0 : Nat → Int64} {kf0 : Nat → Option Nat} {g : Int32} (hN : N ≤ 12) (ok : StOk N pP pH pF pT li pS pD pC)  : Cq Z l yX8_fairestWall cX8_fairestWall 6 (some .int) (rmM 10 1 6) [.ref (x 0), .int g] ((((((((wRg Z x t b p h r a e er ++ wSt Z e nt dgt cot lit pPt pHt pFt pTt pSt pDt pCt) ++ wSt Z a (nI N) dg co li pP pH pF pT pS pD pC) ++ wRk Z r h sk ss) ++ wBk Z h L (nI N) (nI u) sc nm bP bH op f1 f2 l0 l1 l2 l3 l4 l5) ++ wBk Z b Ld hcd lcd scd nmd bPd bHd opd f1d f2d l0d l1d l2d l3d l4d l5d) ++ wPa Z p kk b ti si nk br fl fa y0 y1 y2 y3 y4 y5) ++ wTk Z kk t ct kf0 sf0 vf0) ++ wTp Z t (nI tm) tb) (fun v w => ∃ n9 dg9 co9 li9 pP9 pH9 pF9 pT9 pS9 pD9 pC9, v = some (.int (owX (fcV N pP pH pF pT g.toNatClampNeg) (14 - g.toNatClampNeg) (-1, laG N pP pH pF pT) N).1) ∧ w = ((((((((wRg Z x t b p h r a e er ++ wSt Z e n9 dg9 co9 li9 pP9 pH9 pF9 pT9 pS9 pD9 pC9) ++ wSt Z a (nI N) dg co li pP pH pF pT pS pD pC) ++ wRk Z r h sk ss) ++ wBk Z h L (nI N) (nI u) sc nm bP bH op f1 f2 l0 l1 l2 l3 l4 l5) ++ wBk Z b Ld hcd lcd scd nmd bPd bHd opd f1d f2d l0d l1d l2d l3d l4d l5d) ++ wPa Z p kk b ti si nk br fl fa y0 y1 y2 y3 y4 y5) ++ wTk Z kk t ct kf0 sf0 vf0) ++ wTp Z t (nI tm) tb) ∧ ¬ (g < 1 ∨ 13 < g)) (fun E => (E = "java/lang/IllegalArgumentException" ∧ (g < 1 ∨ 13 < g))) := by
  refine Cq.ofJ (own := RX8) (nm := "fairestWall") (lv0 := [(0, .ref (x 0)), (1, .int g)]) (by decide) rfl rfl (Nat.le_of_ble_eq_true rfl) rfl (fun X hXl C E hT => ?_)
  subst hXl
  refine J_iload_n C iX8_fairestWall_0 rfl rfl ?_
  refine J_xS (As := [.int g]) (st := []) (w0 := []) (rc2 := 0) (rs2 := 0) C E hT iX8_fairestWall_1 lm_X8_200 yc_X8_checkCurfewHours ys_X8_checkCurfewHours (c_X8_checkCurfewHours hl (q := g)) ((((((((wRg Z x t b p h r a e er ++ wSt Z e nt dgt cot lit pPt pHt pFt pTt pSt pDt pCt) ++ wSt Z a (nI N) dg co li pP pH pF pT pS pD pC) ++ wRk Z r h sk ss) ++ wBk Z h L (nI N) (nI u) sc nm bP bH op f1 f2 l0 l1 l2 l3 l4 l5) ++ wBk Z b Ld hcd lcd scd nmd bPd bHd opd f1d f2d l0d l1d l2d l3d l4d l5d) ++ wPa Z p kk b ti si nk br fl fa y0 y1 y2 y3 y4 y5) ++ wTk Z kk t ct kf0 sf0 vf0) ++ wTp Z t (nI tm) tb) [] (by simp only [List.append_assoc, List.append_nil, List.nil_append]) rfl (fun E h => ⟨h.1, h.2⟩) rfl ⟨by decide, by decide⟩ (Nat.le_of_ble_eq_true rfl) rfl rfl ?_
  rintro _ _ ⟨rfl, rfl, hk0⟩
  refine J_st ([]) rfl ?_
  refine J_ws ((((((((wRg Z x t b p h r a e er ++ wSt Z e nt dgt cot lit pPt pHt pFt pTt pSt pDt pCt) ++ wSt Z a (nI N) dg co li pP pH pF pT pS pD pC) ++ wRk Z r h sk ss) ++ wBk Z h L (nI N) (nI u) sc nm bP bH op f1 f2 l0 l1 l2 l3 l4 l5) ++ wBk Z b Ld hcd lcd scd nmd bPd bHd opd f1d f2d l0d l1d l2d l3d l4d l5d) ++ wPa Z p kk b ti si nk br fl fa y0 y1 y2 y3 y4 y5) ++ wTk Z kk t ct kf0 sf0 vf0) ++ wTp Z t (nI tm) tb) (by simp only [List.append_assoc, List.append_nil, List.nil_append]) ?_
  obtain ⟨n, hn1, hn2, rfl⟩ := hours_ex hk0
  refine J_iconst (-1) C iX8_fairestWall_4 rfl ?_
  refine J_istore_n [(2, .int (-1)), (0, .ref (x 0)), (1, .int (nI n))] C iX8_fairestWall_5 rfl (by decide) rfl ?_
  refine J_aload_n C iX8_fairestWall_6 rfl rfl ?_
  refine J_get (.ref (a 0)) 0 C iX8_fairestWall_7 gf_X8_52 rfl rfl ?_
  refine J_get (.int li) 9 C iX8_fairestWall_10 gf_X8_107 rfl rfl ?_
  refine J_istore_n [(3, .int li), (2, .int (-1)), (0, .ref (x 0)), (1, .int (nI n))] C iX8_fairestWall_13 rfl (by decide) rfl ?_
  refine J_iconst 0 C iX8_fairestWall_14 rfl ?_
  refine J_istore [(4, .int 0), (3, .int li), (2, .int (-1)), (0, .ref (x 0)), (1, .int (nI n))] C iX8_fairestWall_15 (by decide) rfl ?_
  refine J_lvm [(2, .int (-1)), (3, .int li), (4, .int 0), (0, .ref (x 0)), (1, .int (nI n))] (by rfl) ?_
  refine J_forI (σ := Int32 × Int32 × Int32 × Int32 × Int32 × Int32 × (Nat → Int32) × (Nat → Int32) × (Nat → Int32) × (Nat → Int32) × (Nat → Int32) × (Nat → Int32) × (Nat → Int32)) (fun i q => [(2, .int q.1), (3, .int q.2.1), (4, .int (nI i)), (0, .ref (x 0)), (1, .int (nI n))]) (fun i q => ((((((((wRg Z x t b p h r a e er ++ wSt Z e q.2.2.1 q.2.2.2.1 q.2.2.2.2.1 q.2.2.2.2.2.1 q.2.2.2.2.2.2.1 q.2.2.2.2.2.2.2.1 q.2.2.2.2.2.2.2.2.1 q.2.2.2.2.2.2.2.2.2.1 q.2.2.2.2.2.2.2.2.2.2.1 q.2.2.2.2.2.2.2.2.2.2.2.1 q.2.2.2.2.2.2.2.2.2.2.2.2) ++ wSt Z a (nI N) dg co li pP pH pF pT pS pD pC) ++ wRk Z r h sk ss) ++ wBk Z h L (nI N) (nI u) sc nm bP bH op f1 f2 l0 l1 l2 l3 l4 l5) ++ wBk Z b Ld hcd lcd scd nmd bPd bHd opd f1d f2d l0d l1d l2d l3d l4d l5d) ++ wPa Z p kk b ti si nk br fl fa y0 y1 y2 y3 y4 y5) ++ wTk Z kk t ct kf0 sf0 vf0) ++ wTp Z t (nI tm) tb)) (fun i q => owX (fcV N pP pH pF pT n) (14 - n) (-1, li) i = (q.1, q.2.1)) N 0 ((-1), li, nt, dgt, cot, lit, pPt, pHt, pFt, pTt, pSt, pDt, pCt) (by omega) rfl ?_ ?_
  · rintro ⟨fa5, fe5, n5, dg5, co5, li5, pP5, pH5, pF5, pT5, pS5, pD5, pC5⟩ hI
    dsimp only at hI ⊢
    refine J_iload C iX8_fairestWall_17 rfl ?_
    refine J_aload_n C iX8_fairestWall_19 rfl rfl ?_
    refine J_get (.ref (a 0)) 0 C iX8_fairestWall_20 gf_X8_52 rfl rfl ?_
    refine J_get (.int (nI N)) 9 C iX8_fairestWall_23 gf_X8_95 rfl rfl ?_
    refine J_icmpge 105 C iX8_fairestWall_26 rfl (fun h26 => ?_) (fun h26 => absurd (nI_le (Nat.le_refl N) (by omega)) h26)
    refine J_iload_n C iX8_fairestWall_105 rfl rfl ?_
    exact J_x2m (J_iret C E iX8_fairestWall_106 ⟨n5, dg5, co5, li5, pP5, pH5, pF5, pT5, pS5, pD5, pC5, by rw [nI_clamp (by omega), ← ok.2.2.2, hI], rfl, hk0⟩)
  · rintro i ⟨fa5, fe5, n5, dg5, co5, li5, pP5, pH5, pF5, pT5, pS5, pD5, pC5⟩ hi0 hi hI ih
    dsimp only at hI ⊢
    refine J_iload C iX8_fairestWall_17 rfl ?_
    refine J_aload_n C iX8_fairestWall_19 rfl rfl ?_
    refine J_get (.ref (a 0)) 0 C iX8_fairestWall_20 gf_X8_52 rfl rfl ?_
    refine J_get (.int (nI N)) 9 C iX8_fairestWall_23 gf_X8_95 rfl rfl ?_
    refine J_icmpge 105 C iX8_fairestWall_26 rfl (fun h26 => absurd h26 (nI_ge hi (by omega))) (fun h26 => ?_)
    refine J_aload_n C iX8_fairestWall_29 rfl rfl ?_
    refine J_get (.ref (e 0)) 0 C iX8_fairestWall_30 gf_X8_56 rfl rfl ?_
    refine J_aload_n C iX8_fairestWall_33 rfl rfl ?_
    refine J_get (.ref (a 0)) 0 C iX8_fairestWall_34 gf_X8_52 rfl rfl ?_
    refine J_cVb (As := [.ref (a 0)]) (st := []) (rc2 := 0) (rs2 := 0) (w0 := (wSt Z e n5 dg5 co5 li5 pP5 pH5 pF5 pT5 pS5 pD5 pC5 ++ wSt Z a (nI N) dg co li pP pH pF pT pS pD pC)) C iX8_fairestWall_37 lm_X8_198 yc_X5_become yv_X5_become c_X5_become (q0 := 0) rfl rfl rfl (wRg Z x t b p h r a e er) (((((wRk Z r h sk ss ++ wBk Z h L (nI N) (nI u) sc nm bP bH op f1 f2 l0 l1 l2 l3 l4 l5) ++ wBk Z b Ld hcd lcd scd nmd bPd bHd opd f1d f2d l0d l1d l2d l3d l4d l5d) ++ wPa Z p kk b ti si nk br fl fa y0 y1 y2 y3 y4 y5) ++ wTk Z kk t ct kf0 sf0 vf0) ++ wTp Z t (nI tm) tb) (by simp only [List.append_assoc, List.append_nil, List.nil_append]) rfl ⟨by decide, by decide⟩ (Nat.le_of_ble_eq_true rfl) rfl rfl ?_
    rintro _ _ ⟨rfl, rfl⟩
    refine J_st ([]) rfl ?_
    refine J_ws ((((((((wRg Z x t b p h r a e er ++ wSt Z e (nI N) dg co li pP pH pF pT pS pD pC) ++ wSt Z a (nI N) dg co li pP pH pF pT pS pD pC) ++ wRk Z r h sk ss) ++ wBk Z h L (nI N) (nI u) sc nm bP bH op f1 f2 l0 l1 l2 l3 l4 l5) ++ wBk Z b Ld hcd lcd scd nmd bPd bHd opd f1d f2d l0d l1d l2d l3d l4d l5d) ++ wPa Z p kk b ti si nk br fl fa y0 y1 y2 y3 y4 y5) ++ wTk Z kk t ct kf0 sf0 vf0) ++ wTp Z t (nI tm) tb) (by simp only [List.append_assoc, List.append_nil, List.nil_append]) ?_
    refine J_bipush 6 C iX8_fairestWall_40 rfl ?_
    refine J_istore [(5, .int 6), (2, .int fa5), (3, .int fe5), (4, .int (nI i)), (0, .ref (x 0)), (1, .int (nI n))] C iX8_fairestWall_42 (by decide) rfl ?_
    refine J_lvm [(2, .int fa5), (3, .int fe5), (5, .int 6), (4, .int (nI i)), (0, .ref (x 0)), (1, .int (nI n))] (by rfl) ?_
    refine J_forI (σ := Int32 × Int32 × Int32 × (Nat → Int32) × (Nat → Int32) × (Nat → Int32) × (Nat → Int32) × (Nat → Int32)) (fun k q => [(2, .int q.1), (3, .int q.2.1), (5, .int (nI k)), (4, .int (nI i)), (0, .ref (x 0)), (1, .int (nI n))]) (fun k q => ((((((((wRg Z x t b p h r a e er ++ wSt Z e (nI N) dg co q.2.2.1 pP pH q.2.2.2.1 q.2.2.2.2.1 q.2.2.2.2.2.1 q.2.2.2.2.2.2.1 q.2.2.2.2.2.2.2) ++ wSt Z a (nI N) dg co li pP pH pF pT pS pD pC) ++ wRk Z r h sk ss) ++ wBk Z h L (nI N) (nI u) sc nm bP bH op f1 f2 l0 l1 l2 l3 l4 l5) ++ wBk Z b Ld hcd lcd scd nmd bPd bHd opd f1d f2d l0d l1d l2d l3d l4d l5d) ++ wPa Z p kk b ti si nk br fl fa y0 y1 y2 y3 y4 y5) ++ wTk Z kk t ct kf0 sf0 vf0) ++ wTp Z t (nI tm) tb)) (fun k q => StOk N pP pH q.2.2.2.1 q.2.2.2.2.1 q.2.2.1 q.2.2.2.2.2.1 q.2.2.2.2.2.2.1 q.2.2.2.2.2.2.2 ∧ (∀ x, upd q.2.2.2.1 i x = upd pF i x) ∧ (∀ x, upd q.2.2.2.2.1 i x = upd pT i x) ∧ iwX (fcV N pP pH pF pT n i) i (owX (fcV N pP pH pF pT n) (14 - n) (-1, li) i) (k - 6) = (q.1, q.2.1)) (20 - n) 6 (fa5, fe5, li, pF, pT, pS, pD, pC) (by omega) ⟨ok, fun _ => rfl, fun _ => rfl, hI⟩ ?_ ?_
    · rintro ⟨fa6, fe6, li6, pF6, pT6, pS6, pD6, pC6⟩ hJ
      dsimp only at hJ ⊢
      refine J_iload C iX8_fairestWall_44 rfl ?_
      refine J_bipush 19 C iX8_fairestWall_46 rfl ?_
      refine J_iload_n C iX8_fairestWall_48 rfl rfl ?_
      refine J_isub C iX8_fairestWall_49 ?_
      rw [show 19 - (nI n) = nI (19 - n) from (pk_sub (a := 19) (by omega))]
      refine J_icmpgt 99 C iX8_fairestWall_50 rfl (fun h50 => ?_) (fun h50 => absurd (nI_lt (by omega) (by omega)) h50)
      refine J_iinc ((nI i) + 1) [(4, .int ((nI i) + 1)), (2, .int fa6), (3, .int fe6), (5, .int (nI (20 - n))), (0, .ref (x 0)), (1, .int (nI n))] C iX8_fairestWall_99 rfl rfl (by decide) rfl ?_
      rw [show (nI i) + 1 = nI (i + 1) from nI_add _ _]
      refine J_goto 17 C iX8_fairestWall_102 rfl ?_
      refine J_lvm [(2, .int fa6), (3, .int fe6), (4, .int (nI (i + 1))), (0, .ref (x 0)), (1, .int (nI n))] rfl ?_
      exact ih (fa6, fe6, nI N, dg, co, li6, pP, pH, pF6, pT6, pS6, pD6, pC6) (by rw [owX, show 14 - n = 20 - n - 6 by omega]; rw [show 14 - n = 20 - n - 6 by omega] at hJ; exact hJ.2.2.2)
    · rintro k ⟨fa6, fe6, li6, pF6, pT6, pS6, pD6, pC6⟩ hj0 hj hJ ihj
      dsimp only at hJ ⊢
      have okI := hJ.1
      refine J_iload C iX8_fairestWall_44 rfl ?_
      refine J_bipush 19 C iX8_fairestWall_46 rfl ?_
      refine J_iload_n C iX8_fairestWall_48 rfl rfl ?_
      refine J_isub C iX8_fairestWall_49 ?_
      rw [show 19 - (nI n) = nI (19 - n) from (pk_sub (a := 19) (by omega))]
      refine J_icmpgt 99 C iX8_fairestWall_50 rfl (fun h50 => absurd h50 (nI_nlt (by omega) (by omega))) (fun h50 => ?_)
      refine J_aload_n C iX8_fairestWall_53 rfl rfl ?_
      refine J_get (.ref (e 0)) 0 C iX8_fairestWall_54 gf_X8_56 rfl rfl ?_
      refine J_iload C iX8_fairestWall_57 rfl ?_
      refine J_iload C iX8_fairestWall_59 rfl ?_
      refine J_iload C iX8_fairestWall_61 rfl ?_
      refine J_iload_n C iX8_fairestWall_63 rfl rfl ?_
      refine J_iadd C iX8_fairestWall_64 ?_
      rw [show (nI k) + (nI n) = nI (k + n) from nI_add _ _]
      refine J_iconst 1 C iX8_fairestWall_65 rfl ?_
      refine J_isub C iX8_fairestWall_66 ?_
      rw [show (nI (k + n)) - 1 = nI (k + n - 1) from (pk_sub (b := 1) (by omega))]
      refine J_cVb (As := [.int (nI i), .int (nI k), .int (nI (k + n - 1))]) (st := []) (rc2 := 0) (rs2 := 0) C iX8_fairestWall_67 lm_X8_174 yc_X5_giveCurfew yv_X5_giveCurfew (c_X5_giveCurfew hN hi okI) (q0 := 0) rfl rfl rfl (wRg Z x t b p h r a e er) ((((((wSt Z a (nI N) dg co li pP pH pF pT pS pD pC ++ wRk Z r h sk ss) ++ wBk Z h L (nI N) (nI u) sc nm bP bH op f1 f2 l0 l1 l2 l3 l4 l5) ++ wBk Z b Ld hcd lcd scd nmd bPd bHd opd f1d f2d l0d l1d l2d l3d l4d l5d) ++ wPa Z p kk b ti si nk br fl fa y0 y1 y2 y3 y4 y5) ++ wTk Z kk t ct kf0 sf0 vf0) ++ wTp Z t (nI tm) tb) rfl rfl ⟨by decide, by decide⟩ (Nat.le_of_ble_eq_true rfl) rfl rfl ?_
      rintro _ _ ⟨li_1, S_1, D_1, C_1, rfl, rfl, ok_1⟩
      refine J_st (.int (b2i (!(decide (pF6 i = nI k) && decide (pT6 i = nI (k + n - 1))))) :: []) rfl ?_
      refine J_ws ((((((((wRg Z x t b p h r a e er ++ wSt Z e (nI N) dg co li_1 pP pH (upd pF6 i (nI k)) (upd pT6 i (nI (k + n - 1))) S_1 D_1 C_1) ++ wSt Z a (nI N) dg co li pP pH pF pT pS pD pC) ++ wRk Z r h sk ss) ++ wBk Z h L (nI N) (nI u) sc nm bP bH op f1 f2 l0 l1 l2 l3 l4 l5) ++ wBk Z b Ld hcd lcd scd nmd bPd bHd opd f1d f2d l0d l1d l2d l3d l4d l5d) ++ wPa Z p kk b ti si nk br fl fa y0 y1 y2 y3 y4 y5) ++ wTk Z kk t ct kf0 sf0 vf0) ++ wTp Z t (nI tm) tb) rfl ?_
      refine J_pop C iX8_fairestWall_70 rfl ?_
      refine J_aload_n C iX8_fairestWall_71 rfl rfl ?_
      refine J_get (.ref (e 0)) 0 C iX8_fairestWall_72 gf_X8_56 rfl rfl ?_
      refine J_get (.int li_1) 1 C iX8_fairestWall_75 gf_X8_107 rfl rfl ?_
      refine J_iload_n C iX8_fairestWall_78 rfl rfl ?_
      refine J_icmpge 93 C iX8_fairestWall_79 rfl (fun h79 => ?_) (fun h79 => ?_)
      · refine J_iinc ((nI k) + 1) [(5, .int ((nI k) + 1)), (2, .int fa6), (3, .int fe6), (4, .int (nI i)), (0, .ref (x 0)), (1, .int (nI n))] C iX8_fairestWall_93 rfl rfl (by decide) rfl ?_
        rw [show (nI k) + 1 = nI (k + 1) from nI_add _ _]
        refine J_goto 44 C iX8_fairestWall_96 rfl ?_
        refine J_lvm [(2, .int fa6), (3, .int fe6), (5, .int (nI (k + 1))), (4, .int (nI i)), (0, .ref (x 0)), (1, .int (nI n))] rfl ?_
        have hv : fcV N pP pH pF pT n i k = li_1 := by rw [fcV, ← hJ.2.1, ← hJ.2.2.1]; exact ok_1.2.2.2.symm
        exact ihj (fa6, fe6, li_1, upd pF6 i (nI k), upd pT6 i (nI (k + n - 1)), S_1, D_1, C_1) ⟨ok_1, fun x => by rw [upd_upd]; exact hJ.2.1 x, fun x => by rw [upd_upd]; exact hJ.2.2.1 x, by rw [iwX_f hj0 (by rw [hJ.2.2.2, hv]; exact Int32.not_lt.mpr h79)]; exact hJ.2.2.2⟩
      · refine J_aload_n C iX8_fairestWall_82 rfl rfl ?_
        refine J_get (.ref (e 0)) 0 C iX8_fairestWall_83 gf_X8_56 rfl rfl ?_
        refine J_get (.int li_1) 1 C iX8_fairestWall_86 gf_X8_107 rfl rfl ?_
        refine J_istore_n [(3, .int li_1), (2, .int fa6), (5, .int (nI k)), (4, .int (nI i)), (0, .ref (x 0)), (1, .int (nI n))] C iX8_fairestWall_89 rfl (by decide) rfl ?_
        refine J_iload C iX8_fairestWall_90 rfl ?_
        refine J_istore_n [(2, .int (nI i)), (3, .int li_1), (5, .int (nI k)), (4, .int (nI i)), (0, .ref (x 0)), (1, .int (nI n))] C iX8_fairestWall_92 rfl (by decide) rfl ?_
        refine J_iinc ((nI k) + 1) [(5, .int ((nI k) + 1)), (2, .int (nI i)), (3, .int li_1), (4, .int (nI i)), (0, .ref (x 0)), (1, .int (nI n))] C iX8_fairestWall_93 rfl rfl (by decide) rfl ?_
        rw [show (nI k) + 1 = nI (k + 1) from nI_add _ _]
        refine J_goto 44 C iX8_fairestWall_96 rfl ?_
        refine J_lvm [(2, .int (nI i)), (3, .int li_1), (5, .int (nI (k + 1))), (4, .int (nI i)), (0, .ref (x 0)), (1, .int (nI n))] rfl ?_
        have hv : fcV N pP pH pF pT n i k = li_1 := by rw [fcV, ← hJ.2.1, ← hJ.2.2.1]; exact ok_1.2.2.2.symm
        exact ihj (nI i, li_1, li_1, upd pF6 i (nI k), upd pT6 i (nI (k + n - 1)), S_1, D_1, C_1) ⟨ok_1, fun x => by rw [upd_upd]; exact hJ.2.1 x, fun x => by rw [upd_upd]; exact hJ.2.2.1 x, by rw [iwX_t hj0 (by rw [hJ.2.2.2, hv]; exact Int32.not_le.mp h79), hv]⟩

