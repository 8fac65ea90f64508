set_option maxRecDepth 100000 in
set_option maxHeartbeats 4000000 in
theorem c_X8_holdsHour {Z : GZ} {l : Launch} {q g : Int32}  : Ct Z l yX8_holdsHour cX8_holdsHour 2 (some .boolean) (rmK 0) [.int q, .int g] [] (fun v w => v = some (.int (b2i (hhX q g))) ∧ w = []) := by
  refine Ct.ofJ (own := RX8) (nm := "holdsHour") (lv0 := [(0, .int q), (1, .int g)]) (by decide) rfl rfl (Nat.le_of_ble_eq_true rfl) rfl (fun X hXl C E => ?_)
  subst hXl
  refine J_iload_n C iX8_holdsHour_0 rfl rfl ?_
  refine J_iload_n C iX8_holdsHour_1 rfl rfl ?_
  refine J_ishr C iX8_holdsHour_2 ?_
  refine J_iconst 1 C iX8_holdsHour_3 rfl ?_
  refine J_iand C iX8_holdsHour_4 ?_
  refine J_ifeq 12 C iX8_holdsHour_5 rfl (fun h5 => ?_) (fun h5 => ?_)
  · refine J_iconst 0 C iX8_holdsHour_12 rfl ?_
    exact J_zret C E iX8_holdsHour_13 rfl ⟨by rw [hhX]; simp [h5, b2i], rfl⟩
  · refine J_iconst 1 C iX8_holdsHour_8 rfl ?_
    refine J_goto 13 C iX8_holdsHour_9 rfl ?_
    exact J_zret C E iX8_holdsHour_13 rfl ⟨by rw [hhX]; simp [h5, b2i], rfl⟩

set_option maxRecDepth 100000 in
set_option maxHeartbeats 4000000 in
theorem c_X8_hoursLostTo {Z : GZ} {l : Launch} (hl : l.stackTraces = false) {x t b p h r a e kk L Ld : Nat → Nat} {N u tm nk : Nat} {er dg co li sk scd hcd lcd sc ct ti si fl fa nt dgt cot lit y0 y1 y2 y3 y4 y5 : Int32} {br : Bool} {ss pP pH pF pT pS pD pC tb bP bH op f1 f2 l0 l1 l2 l3 l4 l5 bPd bHd opd f1d f2d l0d l1d l2d l3d l4d l5d sf0 pPt pHt pFt pTt pSt pDt pCt : Nat → Int32} {nm nmd vf0 : Nat → Int64} {kf0 : Nat → Option Nat} {q : Int32} {g : Int32}   : Cq Z l yX8_hoursLostTo cX8_hoursLostTo 3 (some .int) (rmM 8 2 12) [.ref (x 0), .int q, .int g] ((((((((wRg Z x t b p h r a e er ++ wSt Z e nt dgt cot lit pPt pHt pFt pTt pSt pDt pCt) ++ wSt Z a (nI N) dg co li pP pH pF pT pS pD pC) ++ wRk Z r h sk ss) ++ wBk Z h L (nI N) (nI u) sc nm bP bH op f1 f2 l0 l1 l2 l3 l4 l5) ++ wBk Z b Ld hcd lcd scd nmd bPd bHd opd f1d f2d l0d l1d l2d l3d l4d l5d) ++ wPa Z p kk b ti si nk br fl fa y0 y1 y2 y3 y4 y5) ++ wTk Z kk t ct kf0 sf0 vf0) ++ wTp Z t (nI tm) tb) (fun v w => v = some (.int (bitC (shF (nI N) pS q g))) ∧ w = ((((((((wRg Z x t b p h r a e er ++ wSt Z e nt dgt cot lit pPt pHt pFt pTt pSt pDt pCt) ++ wSt Z a (nI N) dg co li pP pH pF pT pS pD pC) ++ wRk Z r h sk ss) ++ wBk Z h L (nI N) (nI u) sc nm bP bH op f1 f2 l0 l1 l2 l3 l4 l5) ++ wBk Z b Ld hcd lcd scd nmd bPd bHd opd f1d f2d l0d l1d l2d l3d l4d l5d) ++ wPa Z p kk b ti si nk br fl fa y0 y1 y2 y3 y4 y5) ++ wTk Z kk t ct kf0 sf0 vf0) ++ wTp Z t (nI tm) tb) ∧ hasB (nI N) q = true ∧ hasB (nI N) g = true) (fun E => (E = "java/lang/IndexOutOfBoundsException" ∧ ¬ hasB (nI N) q = true) ∨ (E = "java/lang/IndexOutOfBoundsException" ∧ hasB (nI N) q = true ∧ ¬ hasB (nI N) g = true)) := by
  refine Cq.ofJ (own := RX8) (nm := "hoursLostTo") (lv0 := [(0, .ref (x 0)), (1, .int q), (2, .int g)]) (by decide) rfl rfl (Nat.le_of_ble_eq_true rfl) rfl (fun X hXl C E hT => ?_)
  subst hXl
  refine J_aload_n C iX8_hoursLostTo_0 rfl rfl ?_
  refine J_iload_n C iX8_hoursLostTo_1 rfl rfl ?_
  refine J_xV (As := [.int q]) (st := []) (w0 := ((((((((wRg Z x t b p h r a e er ++ wSt Z e nt dgt cot lit pPt pHt pFt pTt pSt pDt pCt) ++ wSt Z a (nI N) dg co li pP pH pF pT pS pD pC) ++ wRk Z r h sk ss) ++ wBk Z h L (nI N) (nI u) sc nm bP bH op f1 f2 l0 l1 l2 l3 l4 l5) ++ wBk Z b Ld hcd lcd scd nmd bPd bHd opd f1d f2d l0d l1d l2d l3d l4d l5d) ++ wPa Z p kk b ti si nk br fl fa y0 y1 y2 y3 y4 y5) ++ wTk Z kk t ct kf0 sf0 vf0) ++ wTp Z t (nI tm) tb)) (rc2 := 1) (rs2 := 6) C E hT iX8_hoursLostTo_2 lm_X8_119 yc_X8_checkHouse yv_X8_checkHouse (c_X8_checkHouse hl (q := q)) (q0 := 0) rfl rfl rfl [] [] (by simp only [List.append_assoc, List.append_nil, List.nil_append]) rfl (fun E h => Or.inl ⟨h.1, h.2⟩) rfl ⟨by decide, by decide⟩ (Nat.le_of_ble_eq_true rfl) rfl rfl ?_
  rintro _ _ ⟨rfl, rfl, hk0⟩
  refine J_st ([]) rfl ?_
  refine J_ws ((((((((wRg Z x t b p h r a e er ++ wSt Z e nt dgt cot lit pPt pHt pFt pTt pSt pDt pCt) ++ wSt Z a (nI N) dg co li pP pH pF pT pS pD pC) ++ wRk Z r h sk ss) ++ wBk Z h L (nI N) (nI u) sc nm bP bH op f1 f2 l0 l1 l2 l3 l4 l5) ++ wBk Z b Ld hcd lcd scd nmd bPd bHd opd f1d f2d l0d l1d l2d l3d l4d l5d) ++ wPa Z p kk b ti si nk br fl fa y0 y1 y2 y3 y4 y5) ++ wTk Z kk t ct kf0 sf0 vf0) ++ wTp Z t (nI tm) tb) (by simp only [List.append_assoc, List.append_nil, List.nil_append]) ?_
  refine J_aload_n C iX8_hoursLostTo_5 rfl rfl ?_
  refine J_iload_n C iX8_hoursLostTo_6 rfl rfl ?_
  refine J_xV (As := [.int g]) (st := []) (w0 := ((((((((wRg Z x t b p h r a e er ++ wSt Z e nt dgt cot lit pPt pHt pFt pTt pSt pDt pCt) ++ wSt Z a (nI N) dg co li pP pH pF pT pS pD pC) ++ wRk Z r h sk ss) ++ wBk Z h L (nI N) (nI u) sc nm bP bH op f1 f2 l0 l1 l2 l3 l4 l5) ++ wBk Z b Ld hcd lcd scd nmd bPd bHd opd f1d f2d l0d l1d l2d l3d l4d l5d) ++ wPa Z p kk b ti si nk br fl fa y0 y1 y2 y3 y4 y5) ++ wTk Z kk t ct kf0 sf0 vf0) ++ wTp Z t (nI tm) tb)) (rc2 := 0) (rs2 := 0) C E hT iX8_hoursLostTo_7 lm_X8_119 yc_X8_checkHouse yv_X8_checkHouse (c_X8_checkHouse hl (q := g)) (q0 := 0) rfl rfl rfl [] [] (by simp only [List.append_assoc, List.append_nil, List.nil_append]) rfl (fun E h => Or.inr <| ⟨h.1, hk0, h.2⟩) rfl ⟨by decide, by decide⟩ (Nat.le_of_ble_eq_true rfl) rfl rfl ?_
  rintro _ _ ⟨rfl, rfl, hk1⟩
  refine J_st ([]) rfl ?_
  refine J_ws ((((((((wRg Z x t b p h r a e er ++ wSt Z e nt dgt cot lit pPt pHt pFt pTt pSt pDt pCt) ++ wSt Z a (nI N) dg co li pP pH pF pT pS pD pC) ++ wRk Z r h sk ss) ++ wBk Z h L (nI N) (nI u) sc nm bP bH op f1 f2 l0 l1 l2 l3 l4 l5) ++ wBk Z b Ld hcd lcd scd nmd bPd bHd opd f1d f2d l0d l1d l2d l3d l4d l5d) ++ wPa Z p kk b ti si nk br fl fa y0 y1 y2 y3 y4 y5) ++ wTk Z kk t ct kf0 sf0 vf0) ++ wTp Z t (nI tm) tb) (by simp only [List.append_assoc, List.append_nil, List.nil_append]) ?_
  refine J_aload_n C iX8_hoursLostTo_10 rfl rfl ?_
  refine J_get (.ref (a 0)) 0 C iX8_hoursLostTo_11 gf_X8_52 rfl rfl ?_
  refine J_iload_n C iX8_hoursLostTo_14 rfl rfl ?_
  refine J_iload_n C iX8_hoursLostTo_15 rfl rfl ?_
  refine J_cVb (As := [.int q, .int g]) (st := []) (rc2 := 0) (rs2 := 0) C iX8_hoursLostTo_16 lm_X8_137 yc_X5_hoursShaded yv_X5_hoursShaded c_X5_hoursShaded (q0 := 0) rfl rfl rfl (wRg Z x t b p h r a e er ++ wSt Z e nt dgt cot lit pPt pHt pFt pTt pSt pDt pCt) (((((wRk Z r h sk ss ++ wBk Z h L (nI N) (nI u) sc nm bP bH op f1 f2 l0 l1 l2 l3 l4 l5) ++ wBk Z b Ld hcd lcd scd nmd bPd bHd opd f1d f2d l0d l1d l2d l3d l4d l5d) ++ wPa Z p kk b ti si nk br fl fa y0 y1 y2 y3 y4 y5) ++ wTk Z kk t ct kf0 sf0 vf0) ++ wTp Z t (nI tm) tb) rfl rfl ⟨by decide, by decide⟩ (Nat.le_of_ble_eq_true rfl) rfl rfl ?_
  rintro _ _ ⟨rfl, rfl⟩
  refine J_st (.int (shF (nI N) pS q g) :: []) rfl ?_
  refine J_ws ((((((((wRg Z x t b p h r a e er ++ wSt Z e nt dgt cot lit pPt pHt pFt pTt pSt pDt pCt) ++ wSt Z a (nI N) dg co li pP pH pF pT pS pD pC) ++ wRk Z r h sk ss) ++ wBk Z h L (nI N) (nI u) sc nm bP bH op f1 f2 l0 l1 l2 l3 l4 l5) ++ wBk Z b Ld hcd lcd scd nmd bPd bHd opd f1d f2d l0d l1d l2d l3d l4d l5d) ++ wPa Z p kk b ti si nk br fl fa y0 y1 y2 y3 y4 y5) ++ wTk Z kk t ct kf0 sf0 vf0) ++ wTp Z t (nI tm) tb) rfl ?_
  refine J_cSp (As := [.int (shF (nI N) pS q g)]) (st := []) C iX8_hoursLostTo_19 lm_X8_141 yc_J6_bitCount_0f7a4 ys_J6_bitCount_0f7a4 c_J6_bitCount_0f7a4 rfl ⟨by decide, by decide⟩ (Nat.le_of_ble_eq_true rfl) ⟨rfl, rfl⟩ ?_
  rintro _ rfl
  refine J_st (.int (bitC (shF (nI N) pS q g)) :: []) rfl ?_
  exact J_x2m (J_iret C E iX8_hoursLostTo_22 ⟨rfl, rfl, hk0, hk1⟩)

set_option maxRecDepth 100000 in
set_option maxHeartbeats 4000000 in
theorem c_X8_shadowOf {Z : GZ} {l : Launch} (hl : l.stackTraces = false) {x t b p h r a e kk L Ld : Nat → Nat} {N u tm nk : Nat} {er dg co li sk scd hcd lcd sc ct ti si fl fa nt dgt cot lit y0 y1 y2 y3 y4 y5 : Int32} {br : Bool} {ss pP pH pF pT pS pD pC tb bP bH op f1 f2 l0 l1 l2 l3 l4 l5 bPd bHd opd f1d f2d l0d l1d l2d l3d l4d l5d sf0 pPt pHt pFt pTt pSt pDt pCt : Nat → Int32} {nm nmd vf0 : Nat → Int64} {kf0 : Nat → Option Nat} {q : Int32} {g : Int32}   : Cq Z l yX8_shadowOf cX8_shadowOf 3 (some .int) (rmM 8 2 12) [.ref (x 0), .int q, .int g] ((((((((wRg Z x t b p h r a e er ++ wSt Z e nt dgt cot lit pPt pHt pFt pTt pSt pDt pCt) ++ wSt Z a (nI N) dg co li pP pH pF pT pS pD pC) ++ wRk Z r h sk ss) ++ wBk Z h L (nI N) (nI u) sc nm bP bH op f1 f2 l0 l1 l2 l3 l4 l5) ++ wBk Z b Ld hcd lcd scd nmd bPd bHd opd f1d f2d l0d l1d l2d l3d l4d l5d) ++ wPa Z p kk b ti si nk br fl fa y0 y1 y2 y3 y4 y5) ++ wTk Z kk t ct kf0 sf0 vf0) ++ wTp Z t (nI tm) tb) (fun v w => v = some (.int (wallF (nI N) pH pF pT q g * stepsF g / 2)) ∧ w = ((((((((wRg Z x t b p h r a e er ++ wSt Z e nt dgt cot lit pPt pHt pFt pTt pSt pDt pCt) ++ wSt Z a (nI N) dg co li pP pH pF pT pS pD pC) ++ wRk Z r h sk ss) ++ wBk Z h L (nI N) (nI u) sc nm bP bH op f1 f2 l0 l1 l2 l3 l4 l5) ++ wBk Z b Ld hcd lcd scd nmd bPd bHd opd f1d f2d l0d l1d l2d l3d l4d l5d) ++ wPa Z p kk b ti si nk br fl fa y0 y1 y2 y3 y4 y5) ++ wTk Z kk t ct kf0 sf0 vf0) ++ wTp Z t (nI tm) tb) ∧ hasB (nI N) q = true ∧ ¬ (g < 0 ∨ 24 ≤ g)) (fun E => (E = "java/lang/IndexOutOfBoundsException" ∧ ¬ hasB (nI N) q = true) ∨ (E = "java/lang/IndexOutOfBoundsException" ∧ hasB (nI N) q = true ∧ (g < 0 ∨ 24 ≤ g))) := by
  refine Cq.ofJ (own := RX8) (nm := "shadowOf") (lv0 := [(0, .ref (x 0)), (1, .int q), (2, .int g)]) (by decide) rfl rfl (Nat.le_of_ble_eq_true rfl) rfl (fun X hXl C E hT => ?_)
  subst hXl
  refine J_aload_n C iX8_shadowOf_0 rfl rfl ?_
  refine J_iload_n C iX8_shadowOf_1 rfl rfl ?_
  refine J_xV (As := [.int q]) (st := []) (w0 := ((((((((wRg Z x t b p h r a e er ++ wSt Z e nt dgt cot lit pPt pHt pFt pTt pSt pDt pCt) ++ wSt Z a (nI N) dg co li pP pH pF pT pS pD pC) ++ wRk Z r h sk ss) ++ wBk Z h L (nI N) (nI u) sc nm bP bH op f1 f2 l0 l1 l2 l3 l4 l5) ++ wBk Z b Ld hcd lcd scd nmd bPd bHd opd f1d f2d l0d l1d l2d l3d l4d l5d) ++ wPa Z p kk b ti si nk br fl fa y0 y1 y2 y3 y4 y5) ++ wTk Z kk t ct kf0 sf0 vf0) ++ wTp Z t (nI tm) tb)) (rc2 := 1) (rs2 := 6) C E hT iX8_shadowOf_2 lm_X8_119 yc_X8_checkHouse yv_X8_checkHouse (c_X8_checkHouse hl (q := q)) (q0 := 0) rfl rfl rfl [] [] (by simp only [List.append_assoc, List.append_nil, List.nil_append]) rfl (fun E h => Or.inl ⟨h.1, h.2⟩) rfl ⟨by decide, by decide⟩ (Nat.le_of_ble_eq_true rfl) rfl rfl ?_
  rintro _ _ ⟨rfl, rfl, hk0⟩
  refine J_st ([]) rfl ?_
  refine J_ws ((((((((wRg Z x t b p h r a e er ++ wSt Z e nt dgt cot lit pPt pHt pFt pTt pSt pDt pCt) ++ wSt Z a (nI N) dg co li pP pH pF pT pS pD pC) ++ wRk Z r h sk ss) ++ wBk Z h L (nI N) (nI u) sc nm bP bH op f1 f2 l0 l1 l2 l3 l4 l5) ++ wBk Z b Ld hcd lcd scd nmd bPd bHd opd f1d f2d l0d l1d l2d l3d l4d l5d) ++ wPa Z p kk b ti si nk br fl fa y0 y1 y2 y3 y4 y5) ++ wTk Z kk t ct kf0 sf0 vf0) ++ wTp Z t (nI tm) tb) (by simp only [List.append_assoc, List.append_nil, List.nil_append]) ?_
  refine J_iload_n C iX8_shadowOf_5 rfl rfl ?_
  refine J_xS (As := [.int g]) (st := []) (w0 := []) (rc2 := 0) (rs2 := 0) C E hT iX8_shadowOf_6 lm_X8_146 yc_X8_checkHour ys_X8_checkHour (c_X8_checkHour hl (q := g)) ((((((((wRg Z x t b p h r a e er ++ wSt Z e nt dgt cot lit pPt pHt pFt pTt pSt pDt pCt) ++ wSt Z a (nI N) dg co li pP pH pF pT pS pD pC) ++ wRk Z r h sk ss) ++ wBk Z h L (nI N) (nI u) sc nm bP bH op f1 f2 l0 l1 l2 l3 l4 l5) ++ wBk Z b Ld hcd lcd scd nmd bPd bHd opd f1d f2d l0d l1d l2d l3d l4d l5d) ++ wPa Z p kk b ti si nk br fl fa y0 y1 y2 y3 y4 y5) ++ wTk Z kk t ct kf0 sf0 vf0) ++ wTp Z t (nI tm) tb) [] (by simp only [List.append_assoc, List.append_nil, List.nil_append]) rfl (fun E h => Or.inr <| ⟨h.1, hk0, h.2⟩) rfl ⟨by decide, by decide⟩ (Nat.le_of_ble_eq_true rfl) rfl rfl ?_
  rintro _ _ ⟨rfl, rfl, hk1⟩
  refine J_st ([]) rfl ?_
  refine J_ws ((((((((wRg Z x t b p h r a e er ++ wSt Z e nt dgt cot lit pPt pHt pFt pTt pSt pDt pCt) ++ wSt Z a (nI N) dg co li pP pH pF pT pS pD pC) ++ wRk Z r h sk ss) ++ wBk Z h L (nI N) (nI u) sc nm bP bH op f1 f2 l0 l1 l2 l3 l4 l5) ++ wBk Z b Ld hcd lcd scd nmd bPd bHd opd f1d f2d l0d l1d l2d l3d l4d l5d) ++ wPa Z p kk b ti si nk br fl fa y0 y1 y2 y3 y4 y5) ++ wTk Z kk t ct kf0 sf0 vf0) ++ wTp Z t (nI tm) tb) (by simp only [List.append_assoc, List.append_nil, List.nil_append]) ?_
  refine J_aload_n C iX8_shadowOf_9 rfl rfl ?_
  refine J_get (.ref (a 0)) 0 C iX8_shadowOf_10 gf_X8_52 rfl rfl ?_
  refine J_iload_n C iX8_shadowOf_13 rfl rfl ?_
  refine J_iload_n C iX8_shadowOf_14 rfl rfl ?_
  refine J_cVb (As := [.int q, .int g]) (st := []) (rc2 := 0) (rs2 := 0) C iX8_shadowOf_15 lm_X8_152 yc_X5_reach yv_X5_reach c_X5_reach (q0 := 0) rfl rfl rfl (wRg Z x t b p h r a e er ++ wSt Z e nt dgt cot lit pPt pHt pFt pTt pSt pDt pCt) (((((wRk Z r h sk ss ++ wBk Z h L (nI N) (nI u) sc nm bP bH op f1 f2 l0 l1 l2 l3 l4 l5) ++ wBk Z b Ld hcd lcd scd nmd bPd bHd opd f1d f2d l0d l1d l2d l3d l4d l5d) ++ wPa Z p kk b ti si nk br fl fa y0 y1 y2 y3 y4 y5) ++ wTk Z kk t ct kf0 sf0 vf0) ++ wTp Z t (nI tm) tb) rfl rfl ⟨by decide, by decide⟩ (Nat.le_of_ble_eq_true rfl) rfl rfl ?_
  rintro _ _ ⟨rfl, rfl⟩
  refine J_st (.int (wallF (nI N) pH pF pT q g * stepsF g / 2) :: []) rfl ?_
  refine J_ws ((((((((wRg Z x t b p h r a e er ++ wSt Z e nt dgt cot lit pPt pHt pFt pTt pSt pDt pCt) ++ wSt Z a (nI N) dg co li pP pH pF pT pS pD pC) ++ wRk Z r h sk ss) ++ wBk Z h L (nI N) (nI u) sc nm bP bH op f1 f2 l0 l1 l2 l3 l4 l5) ++ wBk Z b Ld hcd lcd scd nmd bPd bHd opd f1d f2d l0d l1d l2d l3d l4d l5d) ++ wPa Z p kk b ti si nk br fl fa y0 y1 y2 y3 y4 y5) ++ wTk Z kk t ct kf0 sf0 vf0) ++ wTp Z t (nI tm) tb) rfl ?_
  exact J_x2m (J_iret C E iX8_shadowOf_18 ⟨rfl, rfl, hk0, hk1⟩)

set_option maxRecDepth 100000 in
set_option maxHeartbeats 4000000 in
theorem c_X8_shades {Z : GZ} {l : Launch} (hl : l.stackTraces = false) {x t b p h r a e kk L Ld : Nat → Nat} {N u tm nk : Nat} {er dg co li sk scd hcd lcd sc ct ti si fl fa nt dgt cot lit y0 y1 y2 y3 y4 y5 : Int32} {br : Bool} {ss pP pH pF pT pS pD pC tb bP bH op f1 f2 l0 l1 l2 l3 l4 l5 bPd bHd opd f1d f2d l0d l1d l2d l3d l4d l5d sf0 pPt pHt pFt pTt pSt pDt pCt : Nat → Int32} {nm nmd vf0 : Nat → Int64} {kf0 : Nat → Option Nat} {q : Int32} {g : Int32} {h_ : Int32}   : Cq Z l yX8_shades cX8_shades 4 (some .boolean) (rmM 8 3 18) [.ref (x 0), .int q, .int g, .int h_] ((((((((wRg Z x t b p h r a e er ++ wSt Z e nt dgt cot lit pPt pHt pFt pTt pSt pDt pCt) ++ wSt Z a (nI N) dg co li pP pH pF pT pS pD pC) ++ wRk Z r h sk ss) ++ wBk Z h L (nI N) (nI u) sc nm bP bH op f1 f2 l0 l1 l2 l3 l4 l5) ++ wBk Z b Ld hcd lcd scd nmd bPd bHd opd f1d f2d l0d l1d l2d l3d l4d l5d) ++ wPa Z p kk b ti si nk br fl fa y0 y1 y2 y3 y4 y5) ++ wTk Z kk t ct kf0 sf0 vf0) ++ wTp Z t (nI tm) tb) (fun v w => v = some (.int (b2i (hhX (shF (nI N) pS g q) h_))) ∧ w = ((((((((wRg Z x t b p h r a e er ++ wSt Z e nt dgt cot lit pPt pHt pFt pTt pSt pDt pCt) ++ wSt Z a (nI N) dg co li pP pH pF pT pS pD pC) ++ wRk Z r h sk ss) ++ wBk Z h L (nI N) (nI u) sc nm bP bH op f1 f2 l0 l1 l2 l3 l4 l5) ++ wBk Z b Ld hcd lcd scd nmd bPd bHd opd f1d f2d l0d l1d l2d l3d l4d l5d) ++ wPa Z p kk b ti si nk br fl fa y0 y1 y2 y3 y4 y5) ++ wTk Z kk t ct kf0 sf0 vf0) ++ wTp Z t (nI tm) tb) ∧ hasB (nI N) q = true ∧ hasB (nI N) g = true ∧ ¬ (h_ < 0 ∨ 24 ≤ h_)) (fun E => (E = "java/lang/IndexOutOfBoundsException" ∧ ¬ hasB (nI N) q = true) ∨ (E = "java/lang/IndexOutOfBoundsException" ∧ hasB (nI N) q = true ∧ ¬ hasB (nI N) g = true) ∨ (E = "java/lang/IndexOutOfBoundsException" ∧ hasB (nI N) q = true ∧ hasB (nI N) g = true ∧ (h_ < 0 ∨ 24 ≤ h_))) := by
  refine Cq.ofJ (own := RX8) (nm := "shades") (lv0 := [(0, .ref (x 0)), (1, .int q), (2, .int g), (3, .int h_)]) (by decide) rfl rfl (Nat.le_of_ble_eq_true rfl) rfl (fun X hXl C E hT => ?_)
  subst hXl
  refine J_aload_n C iX8_shades_0 rfl rfl ?_
  refine J_iload_n C iX8_shades_1 rfl rfl ?_
  refine J_xV (As := [.int q]) (st := []) (w0 := ((((((((wRg Z x t b p h r a e er ++ wSt Z e nt dgt cot lit pPt pHt pFt pTt pSt pDt pCt) ++ wSt Z a (nI N) dg co li pP pH pF pT pS pD pC) ++ wRk Z r h sk ss) ++ wBk Z h L (nI N) (nI u) sc nm bP bH op f1 f2 l0 l1 l2 l3 l4 l5) ++ wBk Z b Ld hcd lcd scd nmd bPd bHd opd f1d f2d l0d l1d l2d l3d l4d l5d) ++ wPa Z p kk b ti si nk br fl fa y0 y1 y2 y3 y4 y5) ++ wTk Z kk t ct kf0 sf0 vf0) ++ wTp Z t (nI tm) tb)) (rc2 := 2) (rs2 := 12) C E hT iX8_shades_2 lm_X8_119 yc_X8_checkHouse yv_X8_checkHouse (c_X8_checkHouse hl (q := q)) (q0 := 0) rfl rfl rfl [] [] (by simp only [List.append_assoc, List.append_nil, List.nil_append]) rfl (fun E h => Or.inl ⟨h.1, h.2⟩) rfl ⟨by decide, by decide⟩ (Nat.le_of_ble_eq_true rfl) rfl rfl ?_
  rintro _ _ ⟨rfl, rfl, hk0⟩
  refine J_st ([]) rfl ?_
  refine J_ws ((((((((wRg Z x t b p h r a e er ++ wSt Z e nt dgt cot lit pPt pHt pFt pTt pSt pDt pCt) ++ wSt Z a (nI N) dg co li pP pH pF pT pS pD pC) ++ wRk Z r h sk ss) ++ wBk Z h L (nI N) (nI u) sc nm bP bH op f1 f2 l0 l1 l2 l3 l4 l5) ++ wBk Z b Ld hcd lcd scd nmd bPd bHd opd f1d f2d l0d l1d l2d l3d l4d l5d) ++ wPa Z p kk b ti si nk br fl fa y0 y1 y2 y3 y4 y5) ++ wTk Z kk t ct kf0 sf0 vf0) ++ wTp Z t (nI tm) tb) (by simp only [List.append_assoc, List.append_nil, List.nil_append]) ?_
  refine J_aload_n C iX8_shades_5 rfl rfl ?_
  refine J_iload_n C iX8_shades_6 rfl rfl ?_
  refine J_xV (As := [.int g]) (st := []) (w0 := ((((((((wRg Z x t b p h r a e er ++ wSt Z e nt dgt cot lit pPt pHt pFt pTt pSt pDt pCt) ++ wSt Z a (nI N) dg co li pP pH pF pT pS pD pC) ++ wRk Z r h sk ss) ++ wBk Z h L (nI N) (nI u) sc nm bP bH op f1 f2 l0 l1 l2 l3 l4 l5) ++ wBk Z b Ld hcd lcd scd nmd bPd bHd opd f1d f2d l0d l1d l2d l3d l4d l5d) ++ wPa Z p kk b ti si nk br fl fa y0 y1 y2 y3 y4 y5) ++ wTk Z kk t ct kf0 sf0 vf0) ++ wTp Z t (nI tm) tb)) (rc2 := 1) (rs2 := 6) C E hT iX8_shades_7 lm_X8_119 yc_X8_checkHouse yv_X8_checkHouse (c_X8_checkHouse hl (q := g)) (q0 := 0) rfl rfl rfl [] [] (by simp only [List.append_assoc, List.append_nil, List.nil_append]) rfl (fun E h => Or.inr <| Or.inl ⟨h.1, hk0, h.2⟩) rfl ⟨by decide, by decide⟩ (Nat.le_of_ble_eq_true rfl) rfl rfl ?_
  rintro _ _ ⟨rfl, rfl, hk1⟩
  refine J_st ([]) rfl ?_
  refine J_ws ((((((((wRg Z x t b p h r a e er ++ wSt Z e nt dgt cot lit pPt pHt pFt pTt pSt pDt pCt) ++ wSt Z a (nI N) dg co li pP pH pF pT pS pD pC) ++ wRk Z r h sk ss) ++ wBk Z h L (nI N) (nI u) sc nm bP bH op f1 f2 l0 l1 l2 l3 l4 l5) ++ wBk Z b Ld hcd lcd scd nmd bPd bHd opd f1d f2d l0d l1d l2d l3d l4d l5d) ++ wPa Z p kk b ti si nk br fl fa y0 y1 y2 y3 y4 y5) ++ wTk Z kk t ct kf0 sf0 vf0) ++ wTp Z t (nI tm) tb) (by simp only [List.append_assoc, List.append_nil, List.nil_append]) ?_
  refine J_iload_n C iX8_shades_10 rfl rfl ?_
  refine J_xS (As := [.int h_]) (st := []) (w0 := []) (rc2 := 0) (rs2 := 0) C E hT iX8_shades_11 lm_X8_146 yc_X8_checkHour ys_X8_checkHour (c_X8_checkHour hl (q := h_)) ((((((((wRg Z x t b p h r a e er ++ wSt Z e nt dgt cot lit pPt pHt pFt pTt pSt pDt pCt) ++ wSt Z a (nI N) dg co li pP pH pF pT pS pD pC) ++ wRk Z r h sk ss) ++ wBk Z h L (nI N) (nI u) sc nm bP bH op f1 f2 l0 l1 l2 l3 l4 l5) ++ wBk Z b Ld hcd lcd scd nmd bPd bHd opd f1d f2d l0d l1d l2d l3d l4d l5d) ++ wPa Z p kk b ti si nk br fl fa y0 y1 y2 y3 y4 y5) ++ wTk Z kk t ct kf0 sf0 vf0) ++ wTp Z t (nI tm) tb) [] (by simp only [List.append_assoc, List.append_nil, List.nil_append]) rfl (fun E h => Or.inr <| Or.inr <| ⟨h.1, hk0, hk1, h.2⟩) rfl ⟨by decide, by decide⟩ (Nat.le_of_ble_eq_true rfl) rfl rfl ?_
  rintro _ _ ⟨rfl, rfl, hk2⟩
  refine J_st ([]) rfl ?_
  refine J_ws ((((((((wRg Z x t b p h r a e er ++ wSt Z e nt dgt cot lit pPt pHt pFt pTt pSt pDt pCt) ++ wSt Z a (nI N) dg co li pP pH pF pT pS pD pC) ++ wRk Z r h sk ss) ++ wBk Z h L (nI N) (nI u) sc nm bP bH op f1 f2 l0 l1 l2 l3 l4 l5) ++ wBk Z b Ld hcd lcd scd nmd bPd bHd opd f1d f2d l0d l1d l2d l3d l4d l5d) ++ wPa Z p kk b ti si nk br fl fa y0 y1 y2 y3 y4 y5) ++ wTk Z kk t ct kf0 sf0 vf0) ++ wTp Z t (nI tm) tb) (by simp only [List.append_assoc, List.append_nil, List.nil_append]) ?_
  refine J_aload_n C iX8_shades_14 rfl rfl ?_
  refine J_get (.ref (a 0)) 0 C iX8_shades_15 gf_X8_52 rfl rfl ?_
  refine J_iload_n C iX8_shades_18 rfl rfl ?_
  refine J_iload_n C iX8_shades_19 rfl rfl ?_
  refine J_cVb (As := [.int g, .int q]) (st := []) (rc2 := 0) (rs2 := 0) C iX8_shades_20 lm_X8_137 yc_X5_hoursShaded yv_X5_hoursShaded c_X5_hoursShaded (q0 := 0) rfl rfl rfl (wRg Z x t b p h r a e er ++ wSt Z e nt dgt cot lit pPt pHt pFt pTt pSt pDt pCt) (((((wRk Z r h sk ss ++ wBk Z h L (nI N) (nI u) sc nm bP bH op f1 f2 l0 l1 l2 l3 l4 l5) ++ wBk Z b Ld hcd lcd scd nmd bPd bHd opd f1d f2d l0d l1d l2d l3d l4d l5d) ++ wPa Z p kk b ti si nk br fl fa y0 y1 y2 y3 y4 y5) ++ wTk Z kk t ct kf0 sf0 vf0) ++ wTp Z t (nI tm) tb) rfl rfl ⟨by decide, by decide⟩ (Nat.le_of_ble_eq_true rfl) rfl rfl ?_
  rintro _ _ ⟨rfl, rfl⟩
  refine J_st (.int (shF (nI N) pS g q) :: []) rfl ?_
  refine J_ws ((((((((wRg Z x t b p h r a e er ++ wSt Z e nt dgt cot lit pPt pHt pFt pTt pSt pDt pCt) ++ wSt Z a (nI N) dg co li pP pH pF pT pS pD pC) ++ wRk Z r h sk ss) ++ wBk Z h L (nI N) (nI u) sc nm bP bH op f1 f2 l0 l1 l2 l3 l4 l5) ++ wBk Z b Ld hcd lcd scd nmd bPd bHd opd f1d f2d l0d l1d l2d l3d l4d l5d) ++ wPa Z p kk b ti si nk br fl fa y0 y1 y2 y3 y4 y5) ++ wTk Z kk t ct kf0 sf0 vf0) ++ wTp Z t (nI tm) tb) rfl ?_
  refine J_iload_n C iX8_shades_23 rfl rfl ?_
  refine J_cSp (As := [.int (shF (nI N) pS g q), .int h_]) (st := []) C iX8_shades_24 lm_X8_155 yc_X8_holdsHour ys_X8_holdsHour (c_X8_holdsHour (q := shF (nI N) pS g q) (g := h_)) rfl ⟨by decide, by decide⟩ (Nat.le_of_ble_eq_true rfl) ⟨rfl, rfl⟩ ?_
  rintro _ rfl
  refine J_st (.int (b2i (hhX (shF (nI N) pS g q) h_)) :: []) rfl ?_
  exact J_x2m (J_zret C E iX8_shades_27 nb_b2i ⟨rfl, rfl, hk0, hk1, hk2⟩)

set_option maxRecDepth 100000 in
set_option maxHeartbeats 4000000 in
theorem c_X8_isInTheDark {Z : GZ} {l : Launch} (hl : l.stackTraces = false) {x t b p h r a e kk L Ld : Nat → Nat} {N u tm nk : Nat} {er dg co li sk scd hcd lcd sc ct ti si fl fa nt dgt cot lit y0 y1 y2 y3 y4 y5 : Int32} {br : Bool} {ss pP pH pF pT pS pD pC tb bP bH op f1 f2 l0 l1 l2 l3 l4 l5 bPd bHd opd f1d f2d l0d l1d l2d l3d l4d l5d sf0 pPt pHt pFt pTt pSt pDt pCt : Nat → Int32} {nm nmd vf0 : Nat → Int64} {kf0 : Nat → Option Nat} {q : Int32} {g : Int32}   : Cq Z l yX8_isInTheDark cX8_isInTheDark 3 (some .boolean) (rmM 8 2 12) [.ref (x 0), .int q, .int g] ((((((((wRg Z x t b p h r a e er ++ wSt Z e nt dgt cot lit pPt pHt pFt pTt pSt pDt pCt) ++ wSt Z a (nI N) dg co li pP pH pF pT pS pD pC) ++ wRk Z r h sk ss) ++ wBk Z h L (nI N) (nI u) sc nm bP bH op f1 f2 l0 l1 l2 l3 l4 l5) ++ wBk Z b Ld hcd lcd scd nmd bPd bHd opd f1d f2d l0d l1d l2d l3d l4d l5d) ++ wPa Z p kk b ti si nk br fl fa y0 y1 y2 y3 y4 y5) ++ wTk Z kk t ct kf0 sf0 vf0) ++ wTp Z t (nI tm) tb) (fun v w => v = some (.int (b2i (hhX (stAt (nI N) q pD 0) g))) ∧ w = ((((((((wRg Z x t b p h r a e er ++ wSt Z e nt dgt cot lit pPt pHt pFt pTt pSt pDt pCt) ++ wSt Z a (nI N) dg co li pP pH pF pT pS pD pC) ++ wRk Z r h sk ss) ++ wBk Z h L (nI N) (nI u) sc nm bP bH op f1 f2 l0 l1 l2 l3 l4 l5) ++ wBk Z b Ld hcd lcd scd nmd bPd bHd opd f1d f2d l0d l1d l2d l3d l4d l5d) ++ wPa Z p kk b ti si nk br fl fa y0 y1 y2 y3 y4 y5) ++ wTk Z kk t ct kf0 sf0 vf0) ++ wTp Z t (nI tm) tb) ∧ hasB (nI N) q = true ∧ ¬ (g < 0 ∨ 24 ≤ g)) (fun E => (E = "java/lang/IndexOutOfBoundsException" ∧ ¬ hasB (nI N) q = true) ∨ (E = "java/lang/IndexOutOfBoundsException" ∧ hasB (nI N) q = true ∧ (g < 0 ∨ 24 ≤ g))) := by
  refine Cq.ofJ (own := RX8) (nm := "isInTheDark") (lv0 := [(0, .ref (x 0)), (1, .int q), (2, .int g)]) (by decide) rfl rfl (Nat.le_of_ble_eq_true rfl) rfl (fun X hXl C E hT => ?_)
  subst hXl
  refine J_aload_n C iX8_isInTheDark_0 rfl rfl ?_
  refine J_iload_n C iX8_isInTheDark_1 rfl rfl ?_
  refine J_xV (As := [.int q]) (st := []) (w0 := ((((((((wRg Z x t b p h r a e er ++ wSt Z e nt dgt cot lit pPt pHt pFt pTt pSt pDt pCt) ++ wSt Z a (nI N) dg co li pP pH pF pT pS pD pC) ++ wRk Z r h sk ss) ++ wBk Z h L (nI N) (nI u) sc nm bP bH op f1 f2 l0 l1 l2 l3 l4 l5) ++ wBk Z b Ld hcd lcd scd nmd bPd bHd opd f1d f2d l0d l1d l2d l3d l4d l5d) ++ wPa Z p kk b ti si nk br fl fa y0 y1 y2 y3 y4 y5) ++ wTk Z kk t ct kf0 sf0 vf0) ++ wTp Z t (nI tm) tb)) (rc2 := 1) (rs2 := 6) C E hT iX8_isInTheDark_2 lm_X8_119 yc_X8_checkHouse yv_X8_checkHouse (c_X8_checkHouse hl (q := q)) (q0 := 0) rfl rfl rfl [] [] (by simp only [List.append_assoc, List.append_nil, List.nil_append]) rfl (fun E h => Or.inl ⟨h.1, h.2⟩) rfl ⟨by decide, by decide⟩ (Nat.le_of_ble_eq_true rfl) rfl rfl ?_
  rintro _ _ ⟨rfl, rfl, hk0⟩
  refine J_st ([]) rfl ?_
  refine J_ws ((((((((wRg Z x t b p h r a e er ++ wSt Z e nt dgt cot lit pPt pHt pFt pTt pSt pDt pCt) ++ wSt Z a (nI N) dg co li pP pH pF pT pS pD pC) ++ wRk Z r h sk ss) ++ wBk Z h L (nI N) (nI u) sc nm bP bH op f1 f2 l0 l1 l2 l3 l4 l5) ++ wBk Z b Ld hcd lcd scd nmd bPd bHd opd f1d f2d l0d l1d l2d l3d l4d l5d) ++ wPa Z p kk b ti si nk br fl fa y0 y1 y2 y3 y4 y5) ++ wTk Z kk t ct kf0 sf0 vf0) ++ wTp Z t (nI tm) tb) (by simp only [List.append_assoc, List.append_nil, List.nil_append]) ?_
  refine J_iload_n C iX8_isInTheDark_5 rfl rfl ?_
  refine J_xS (As := [.int g]) (st := []) (w0 := []) (rc2 := 0) (rs2 := 0) C E hT iX8_isInTheDark_6 lm_X8_146 yc_X8_checkHour ys_X8_checkHour (c_X8_checkHour hl (q := g)) ((((((((wRg Z x t b p h r a e er ++ wSt Z e nt dgt cot lit pPt pHt pFt pTt pSt pDt pCt) ++ wSt Z a (nI N) dg co li pP pH pF pT pS pD pC) ++ wRk Z r h sk ss) ++ wBk Z h L (nI N) (nI u) sc nm bP bH op f1 f2 l0 l1 l2 l3 l4 l5) ++ wBk Z b Ld hcd lcd scd nmd bPd bHd opd f1d f2d l0d l1d l2d l3d l4d l5d) ++ wPa Z p kk b ti si nk br fl fa y0 y1 y2 y3 y4 y5) ++ wTk Z kk t ct kf0 sf0 vf0) ++ wTp Z t (nI tm) tb) [] (by simp only [List.append_assoc, List.append_nil, List.nil_append]) rfl (fun E h => Or.inr <| ⟨h.1, hk0, h.2⟩) rfl ⟨by decide, by decide⟩ (Nat.le_of_ble_eq_true rfl) rfl rfl ?_
  rintro _ _ ⟨rfl, rfl, hk1⟩
  refine J_st ([]) rfl ?_
  refine J_ws ((((((((wRg Z x t b p h r a e er ++ wSt Z e nt dgt cot lit pPt pHt pFt pTt pSt pDt pCt) ++ wSt Z a (nI N) dg co li pP pH pF pT pS pD pC) ++ wRk Z r h sk ss) ++ wBk Z h L (nI N) (nI u) sc nm bP bH op f1 f2 l0 l1 l2 l3 l4 l5) ++ wBk Z b Ld hcd lcd scd nmd bPd bHd opd f1d f2d l0d l1d l2d l3d l4d l5d) ++ wPa Z p kk b ti si nk br fl fa y0 y1 y2 y3 y4 y5) ++ wTk Z kk t ct kf0 sf0 vf0) ++ wTp Z t (nI tm) tb) (by simp only [List.append_assoc, List.append_nil, List.nil_append]) ?_
  refine J_aload_n C iX8_isInTheDark_9 rfl rfl ?_
  refine J_get (.ref (a 0)) 0 C iX8_isInTheDark_10 gf_X8_52 rfl rfl ?_
  refine J_iload_n C iX8_isInTheDark_13 rfl rfl ?_
  refine J_cVb (As := [.int q]) (st := []) (rc2 := 0) (rs2 := 0) C iX8_isInTheDark_14 lm_X8_159 yc_X5_hoursDark yv_X5_hoursDark c_X5_hoursDark (q0 := 0) rfl rfl rfl (wRg Z x t b p h r a e er ++ wSt Z e nt dgt cot lit pPt pHt pFt pTt pSt pDt pCt) (((((wRk Z r h sk ss ++ wBk Z h L (nI N) (nI u) sc nm bP bH op f1 f2 l0 l1 l2 l3 l4 l5) ++ wBk Z b Ld hcd lcd scd nmd bPd bHd opd f1d f2d l0d l1d l2d l3d l4d l5d) ++ wPa Z p kk b ti si nk br fl fa y0 y1 y2 y3 y4 y5) ++ wTk Z kk t ct kf0 sf0 vf0) ++ wTp Z t (nI tm) tb) rfl rfl ⟨by decide, by decide⟩ (Nat.le_of_ble_eq_true rfl) rfl rfl ?_
  rintro _ _ ⟨rfl, rfl⟩
  refine J_st (.int (stAt (nI N) q pD 0) :: []) rfl ?_
  refine J_ws ((((((((wRg Z x t b p h r a e er ++ wSt Z e nt dgt cot lit pPt pHt pFt pTt pSt pDt pCt) ++ wSt Z a (nI N) dg co li pP pH pF pT pS pD pC) ++ wRk Z r h sk ss) ++ wBk Z h L (nI N) (nI u) sc nm bP bH op f1 f2 l0 l1 l2 l3 l4 l5) ++ wBk Z b Ld hcd lcd scd nmd bPd bHd opd f1d f2d l0d l1d l2d l3d l4d l5d) ++ wPa Z p kk b ti si nk br fl fa y0 y1 y2 y3 y4 y5) ++ wTk Z kk t ct kf0 sf0 vf0) ++ wTp Z t (nI tm) tb) rfl ?_
  refine J_iload_n C iX8_isInTheDark_17 rfl rfl ?_
  refine J_cSp (As := [.int (stAt (nI N) q pD 0), .int g]) (st := []) C iX8_isInTheDark_18 lm_X8_155 yc_X8_holdsHour ys_X8_holdsHour (c_X8_holdsHour (q := stAt (nI N) q pD 0) (g := g)) rfl ⟨by decide, by decide⟩ (Nat.le_of_ble_eq_true rfl) ⟨rfl, rfl⟩ ?_
  rintro _ rfl
  refine J_st (.int (b2i (hhX (stAt (nI N) q pD 0) g)) :: []) rfl ?_
  exact J_x2m (J_zret C E iX8_isInTheDark_21 nb_b2i ⟨rfl, rfl, hk0, hk1⟩)

set_option maxRecDepth 100000 in
set_option maxHeartbeats 4000000 in
theorem c_X8_hasCurfew {Z : GZ} {l : Launch} (hl : l.stackTraces = false) {x t b p h r a e kk L Ld : Nat → Nat} {N u tm nk : Nat} {er dg co li sk scd hcd lcd sc ct ti si fl fa nt dgt cot lit y0 y1 y2 y3 y4 y5 : Int32} {br : Bool} {ss pP pH pF pT pS pD pC tb bP bH op f1 f2 l0 l1 l2 l3 l4 l5 bPd bHd opd f1d f2d l0d l1d l2d l3d l4d l5d sf0 pPt pHt pFt pTt pSt pDt pCt : Nat → Int32} {nm nmd vf0 : Nat → Int64} {kf0 : Nat → Option Nat} {q : Int32}   : Cq Z l yX8_hasCurfew cX8_hasCurfew 2 (some .boolean) (rmM 8 1 6) [.ref (x 0), .int q] ((((((((wRg Z x t b p h r a e er ++ wSt Z e nt dgt cot lit pPt pHt pFt pTt pSt pDt pCt) ++ wSt Z a (nI N) dg co li pP pH pF pT pS pD pC) ++ wRk Z r h sk ss) ++ wBk Z h L (nI N) (nI u) sc nm bP bH op f1 f2 l0 l1 l2 l3 l4 l5) ++ wBk Z b Ld hcd lcd scd nmd bPd bHd opd f1d f2d l0d l1d l2d l3d l4d l5d) ++ wPa Z p kk b ti si nk br fl fa y0 y1 y2 y3 y4 y5) ++ wTk Z kk t ct kf0 sf0 vf0) ++ wTp Z t (nI tm) tb) (fun v w => v = some (.int (b2i (!decide (stAt (nI N) q pF (-1) = -1)))) ∧ w = ((((((((wRg Z x t b p h r a e er ++ wSt Z e nt dgt cot lit pPt pHt pFt pTt pSt pDt pCt) ++ wSt Z a (nI N) dg co li pP pH pF pT pS pD pC) ++ wRk Z r h sk ss) ++ wBk Z h L (nI N) (nI u) sc nm bP bH op f1 f2 l0 l1 l2 l3 l4 l5) ++ wBk Z b Ld hcd lcd scd nmd bPd bHd opd f1d f2d l0d l1d l2d l3d l4d l5d) ++ wPa Z p kk b ti si nk br fl fa y0 y1 y2 y3 y4 y5) ++ wTk Z kk t ct kf0 sf0 vf0) ++ wTp Z t (nI tm) tb) ∧ hasB (nI N) q = true) (fun E => (E = "java/lang/IndexOutOfBoundsException" ∧ ¬ hasB (nI N) q = true)) := by
  refine Cq.ofJ (own := RX8) (nm := "hasCurfew") (lv0 := [(0, .ref (x 0)), (1, .int q)]) (by decide) rfl rfl (Nat.le_of_ble_eq_true rfl) rfl (fun X hXl C E hT => ?_)
  subst hXl
  refine J_aload_n C iX8_hasCurfew_0 rfl rfl ?_
  refine J_iload_n C iX8_hasCurfew_1 rfl rfl ?_
  refine J_xV (As := [.int q]) (st := []) (w0 := ((((((((wRg Z x t b p h r a e er ++ wSt Z e nt dgt cot lit pPt pHt pFt pTt pSt pDt pCt) ++ wSt Z a (nI N) dg co li pP pH pF pT pS pD pC) ++ wRk Z r h sk ss) ++ wBk Z h L (nI N) (nI u) sc nm bP bH op f1 f2 l0 l1 l2 l3 l4 l5) ++ wBk Z b Ld hcd lcd scd nmd bPd bHd opd f1d f2d l0d l1d l2d l3d l4d l5d) ++ wPa Z p kk b ti si nk br fl fa y0 y1 y2 y3 y4 y5) ++ wTk Z kk t ct kf0 sf0 vf0) ++ wTp Z t (nI tm) tb)) (rc2 := 0) (rs2 := 0) C E hT iX8_hasCurfew_2 lm_X8_119 yc_X8_checkHouse yv_X8_checkHouse (c_X8_checkHouse hl (q := q)) (q0 := 0) rfl rfl rfl [] [] (by simp only [List.append_assoc, List.append_nil, List.nil_append]) rfl (fun E h => ⟨h.1, h.2⟩) rfl ⟨by decide, by decide⟩ (Nat.le_of_ble_eq_true rfl) rfl rfl ?_
  rintro _ _ ⟨rfl, rfl, hk0⟩
  refine J_st ([]) rfl ?_
  refine J_ws ((((((((wRg Z x t b p h r a e er ++ wSt Z e nt dgt cot lit pPt pHt pFt pTt pSt pDt pCt) ++ wSt Z a (nI N) dg co li pP pH pF pT pS pD pC) ++ wRk Z r h sk ss) ++ wBk Z h L (nI N) (nI u) sc nm bP bH op f1 f2 l0 l1 l2 l3 l4 l5) ++ wBk Z b Ld hcd lcd scd nmd bPd bHd opd f1d f2d l0d l1d l2d l3d l4d l5d) ++ wPa Z p kk b ti si nk br fl fa y0 y1 y2 y3 y4 y5) ++ wTk Z kk t ct kf0 sf0 vf0) ++ wTp Z t (nI tm) tb) (by simp only [List.append_assoc, List.append_nil, List.nil_append]) ?_
  refine J_aload_n C iX8_hasCurfew_5 rfl rfl ?_
  refine J_get (.ref (a 0)) 0 C iX8_hasCurfew_6 gf_X8_52 rfl rfl ?_
  refine J_iload_n C iX8_hasCurfew_9 rfl rfl ?_
  refine J_cVb (As := [.int q]) (st := []) (rc2 := 0) (rs2 := 0) C iX8_hasCurfew_10 lm_X8_128 yc_X5_firstLow yv_X5_firstLow c_X5_firstLow (q0 := 0) rfl rfl rfl (wRg Z x t b p h r a e er ++ wSt Z e nt dgt cot lit pPt pHt pFt pTt pSt pDt pCt) (((((wRk Z r h sk ss ++ wBk Z h L (nI N) (nI u) sc nm bP bH op f1 f2 l0 l1 l2 l3 l4 l5) ++ wBk Z b Ld hcd lcd scd nmd bPd bHd opd f1d f2d l0d l1d l2d l3d l4d l5d) ++ wPa Z p kk b ti si nk br fl fa y0 y1 y2 y3 y4 y5) ++ wTk Z kk t ct kf0 sf0 vf0) ++ wTp Z t (nI tm) tb) rfl rfl ⟨by decide, by decide⟩ (Nat.le_of_ble_eq_true rfl) rfl rfl ?_
  rintro _ _ ⟨rfl, rfl⟩
  refine J_st (.int (stAt (nI N) q pF (-1)) :: []) rfl ?_
  refine J_ws ((((((((wRg Z x t b p h r a e er ++ wSt Z e nt dgt cot lit pPt pHt pFt pTt pSt pDt pCt) ++ wSt Z a (nI N) dg co li pP pH pF pT pS pD pC) ++ wRk Z r h sk ss) ++ wBk Z h L (nI N) (nI u) sc nm bP bH op f1 f2 l0 l1 l2 l3 l4 l5) ++ wBk Z b Ld hcd lcd scd nmd bPd bHd opd f1d f2d l0d l1d l2d l3d l4d l5d) ++ wPa Z p kk b ti si nk br fl fa y0 y1 y2 y3 y4 y5) ++ wTk Z kk t ct kf0 sf0 vf0) ++ wTp Z t (nI tm) tb) rfl ?_
  refine J_iconst (-1) C iX8_hasCurfew_13 rfl ?_
  refine J_icmpeq 21 C iX8_hasCurfew_14 rfl (fun h14 => ?_) (fun h14 => ?_)
  · refine J_iconst 0 C iX8_hasCurfew_21 rfl ?_
    exact J_x2m (J_zret C E iX8_hasCurfew_22 rfl ⟨by simp [h14, b2i], rfl, hk0⟩)
  · refine J_iconst 1 C iX8_hasCurfew_17 rfl ?_
    refine J_goto 22 C iX8_hasCurfew_18 rfl ?_
    exact J_x2m (J_zret C E iX8_hasCurfew_22 rfl ⟨by simp [h14, b2i], rfl, hk0⟩)

set_option maxRecDepth 100000 in
set_option maxHeartbeats 4000000 in
theorem c_X8_countDark {Z : GZ} {l : Launch} {x t b p h r a e kk L Ld : Nat → Nat} {N u tm nk : Nat} {er dg co li sk scd hcd lcd sc ct ti si fl fa nt dgt cot lit y0 y1 y2 y3 y4 y5 : Int32} {br : Bool} {ss pP pH pF pT pS pD pC tb bP bH op f1 f2 l0 l1 l2 l3 l4 l5 bPd bHd opd f1d f2d l0d l1d l2d l3d l4d l5d sf0 pPt pHt pFt pTt pSt pDt pCt : Nat → Int32} {nm nmd vf0 : Nat → Int64} {kf0 : Nat → Option Nat} {q : Int32} (hN : N ≤ 12)  : Ct Z l yX8_countDark cX8_countDark 4 (some .int) (rmK 2) [.ref (x 0), .int q] ((((((((wRg Z x t b p h r a e er ++ wSt Z e nt dgt cot lit pPt pHt pFt pTt pSt pDt pCt) ++ wSt Z a (nI N) dg co li pP pH pF pT pS pD pC) ++ wRk Z r h sk ss) ++ wBk Z h L (nI N) (nI u) sc nm bP bH op f1 f2 l0 l1 l2 l3 l4 l5) ++ wBk Z b Ld hcd lcd scd nmd bPd bHd opd f1d f2d l0d l1d l2d l3d l4d l5d) ++ wPa Z p kk b ti si nk br fl fa y0 y1 y2 y3 y4 y5) ++ wTk Z kk t ct kf0 sf0 vf0) ++ wTp Z t (nI tm) tb) (fun v w => v = some (.int (nI (cntN (dkB N pD q) N))) ∧ w = ((((((((wRg Z x t b p h r a e er ++ wSt Z e nt dgt cot lit pPt pHt pFt pTt pSt pDt pCt) ++ wSt Z a (nI N) dg co li pP pH pF pT pS pD pC) ++ wRk Z r h sk ss) ++ wBk Z h L (nI N) (nI u) sc nm bP bH op f1 f2 l0 l1 l2 l3 l4 l5) ++ wBk Z b Ld hcd lcd scd nmd bPd bHd opd f1d f2d l0d l1d l2d l3d l4d l5d) ++ wPa Z p kk b ti si nk br fl fa y0 y1 y2 y3 y4 y5) ++ wTk Z kk t ct kf0 sf0 vf0) ++ wTp Z t (nI tm) tb)) := by
  refine Ct.ofJ (own := RX8) (nm := "countDark") (lv0 := [(0, .ref (x 0)), (1, .int q)]) (by decide) rfl rfl (Nat.le_of_ble_eq_true rfl) rfl (fun X hXl C E => ?_)
  subst hXl
  refine J_iconst 0 C iX8_countDark_0 rfl ?_
  refine J_istore_n [(2, .int 0), (0, .ref (x 0)), (1, .int q)] C iX8_countDark_1 rfl (by decide) rfl ?_
  refine J_iconst 0 C iX8_countDark_2 rfl ?_
  refine J_istore_n [(3, .int 0), (2, .int 0), (0, .ref (x 0)), (1, .int q)] C iX8_countDark_3 rfl (by decide) rfl ?_
  refine J_lvm [(2, .int 0), (3, .int 0), (1, .int q), (0, .ref (x 0))] rfl ?_
  refine J_for (fun k => [(2, .int (nI (cntN (dkB N pD q) k))), (3, .int (nI k)), (1, .int q), (0, .ref (x 0))]) (fun k => ((((((((wRg Z x t b p h r a e er ++ wSt Z e nt dgt cot lit pPt pHt pFt pTt pSt pDt pCt) ++ wSt Z a (nI N) dg co li pP pH pF pT pS pD pC) ++ wRk Z r h sk ss) ++ wBk Z h L (nI N) (nI u) sc nm bP bH op f1 f2 l0 l1 l2 l3 l4 l5) ++ wBk Z b Ld hcd lcd scd nmd bPd bHd opd f1d f2d l0d l1d l2d l3d l4d l5d) ++ wPa Z p kk b ti si nk br fl fa y0 y1 y2 y3 y4 y5) ++ wTk Z kk t ct kf0 sf0 vf0) ++ wTp Z t (nI tm) tb)) N 0 (by omega) ?_ (fun k hk0 hk ih => ?_)
  · refine J_iload_n C iX8_countDark_4 rfl rfl ?_
    refine J_aload_n C iX8_countDark_5 rfl rfl ?_
    refine J_get (.ref (a 0)) 0 C iX8_countDark_6 gf_X8_52 rfl rfl ?_
    refine J_get (.int (nI N)) 9 C iX8_countDark_9 gf_X8_95 rfl rfl ?_
    refine J_icmpge 39 C iX8_countDark_12 rfl (fun h12 => ?_) (fun h12 => absurd (nI_le (a := N) (b := N) (by omega) (by omega)) h12)
    refine J_iload_n C iX8_countDark_39 rfl rfl ?_
    exact J_iret C E iX8_countDark_40 ⟨rfl, rfl⟩
  · refine J_iload_n C iX8_countDark_4 rfl rfl ?_
    refine J_aload_n C iX8_countDark_5 rfl rfl ?_
    refine J_get (.ref (a 0)) 0 C iX8_countDark_6 gf_X8_52 rfl rfl ?_
    refine J_get (.int (nI N)) 9 C iX8_countDark_9 gf_X8_95 rfl rfl ?_
    refine J_icmpge 39 C iX8_countDark_12 rfl (fun h12 => absurd h12 (nI_ge (a := k) (b := N) (by omega) (by omega))) (fun h12 => ?_)
    refine J_aload_n C iX8_countDark_15 rfl rfl ?_
    refine J_get (.ref (a 0)) 0 C iX8_countDark_16 gf_X8_52 rfl rfl ?_
    refine J_iload_n C iX8_countDark_19 rfl rfl ?_
    refine J_cVb (As := [.int (nI k)]) (st := []) (rc2 := (rmK 2).cells) (rs2 := (rmK 2).slots) C iX8_countDark_20 lm_X8_159 yc_X5_hoursDark yv_X5_hoursDark c_X5_hoursDark (q0 := 0) rfl rfl rfl (wRg Z x t b p h r a e er ++ wSt Z e nt dgt cot lit pPt pHt pFt pTt pSt pDt pCt) (((((wRk Z r h sk ss ++ wBk Z h L (nI N) (nI u) sc nm bP bH op f1 f2 l0 l1 l2 l3 l4 l5) ++ wBk Z b Ld hcd lcd scd nmd bPd bHd opd f1d f2d l0d l1d l2d l3d l4d l5d) ++ wPa Z p kk b ti si nk br fl fa y0 y1 y2 y3 y4 y5) ++ wTk Z kk t ct kf0 sf0 vf0) ++ wTp Z t (nI tm) tb) rfl rfl ⟨by decide, by decide⟩ (Nat.le_of_ble_eq_true rfl) rfl rfl ?_
    rintro _ _ ⟨rfl, rfl⟩
    refine J_st (.int (stAt (nI N) (nI k) pD 0) :: []) rfl ?_
    refine J_ws ((((((((wRg Z x t b p h r a e er ++ wSt Z e nt dgt cot lit pPt pHt pFt pTt pSt pDt pCt) ++ wSt Z a (nI N) dg co li pP pH pF pT pS pD pC) ++ wRk Z r h sk ss) ++ wBk Z h L (nI N) (nI u) sc nm bP bH op f1 f2 l0 l1 l2 l3 l4 l5) ++ wBk Z b Ld hcd lcd scd nmd bPd bHd opd f1d f2d l0d l1d l2d l3d l4d l5d) ++ wPa Z p kk b ti si nk br fl fa y0 y1 y2 y3 y4 y5) ++ wTk Z kk t ct kf0 sf0 vf0) ++ wTp Z t (nI tm) tb) rfl ?_
    refine J_iload_n C iX8_countDark_23 rfl rfl ?_
    refine J_cSp (As := [.int (stAt (nI N) (nI k) pD 0), .int q]) (st := []) C iX8_countDark_24 lm_X8_155 yc_X8_holdsHour ys_X8_holdsHour (c_X8_holdsHour (q := stAt (nI N) (nI k) pD 0) (g := q)) rfl ⟨by decide, by decide⟩ (Nat.le_of_ble_eq_true rfl) ⟨rfl, rfl⟩ ?_
    rintro _ rfl
    refine J_st (.int (b2i (hhX (stAt (nI N) (nI k) pD 0) q)) :: []) rfl ?_
    refine J_ifeqb 33 C iX8_countDark_27 rfl (fun h27 => ?_) (fun h27 => ?_)
    · refine J_iinc ((nI k) + 1) [(3, .int ((nI k) + 1)), (2, .int (nI (cntN (dkB N pD q) k))), (1, .int q), (0, .ref (x 0))] C iX8_countDark_33 rfl rfl (by decide) rfl ?_
      rw [show (nI k) + 1 = nI (k + 1) from nI_add _ _]
      refine J_goto 4 C iX8_countDark_36 rfl ?_
      refine J_lvm [(2, .int (nI (cntN (dkB N pD q) k))), (3, .int (nI (k + 1))), (1, .int q), (0, .ref (x 0))] rfl ?_
      rw [cntN_f (f := (dkB N pD q)) (k := k) h27]
      exact ih
    · refine J_iinc ((nI (cntN (dkB N pD q) k)) + 1) [(2, .int ((nI (cntN (dkB N pD q) k)) + 1)), (3, .int (nI k)), (1, .int q), (0, .ref (x 0))] C iX8_countDark_30 rfl rfl (by decide) rfl ?_
      rw [show (nI (cntN (dkB N pD q) k)) + 1 = nI ((cntN (dkB N pD q) k) + 1) from nI_add _ _]
      refine J_iinc ((nI k) + 1) [(3, .int ((nI k) + 1)), (2, .int (nI ((cntN (dkB N pD q) k) + 1))), (1, .int q), (0, .ref (x 0))] C iX8_countDark_33 rfl rfl (by decide) rfl ?_
      rw [show (nI k) + 1 = nI (k + 1) from nI_add _ _]
      refine J_goto 4 C iX8_countDark_36 rfl ?_
      refine J_lvm [(2, .int (nI ((cntN (dkB N pD q) k) + 1))), (3, .int (nI (k + 1))), (1, .int q), (0, .ref (x 0))] rfl ?_
      rw [cntN_t (f := (dkB N pD q)) (k := k) h27]
      exact ih

set_option maxRecDepth 100000 in
set_option maxHeartbeats 4000000 in
theorem c_X8_housesInTheDark {Z : GZ} {l : Launch} (hl : l.stackTraces = false) {x t b p h r a e kk L Ld : Nat → Nat} {N u tm nk : Nat} {er dg co li sk scd hcd lcd sc ct ti si fl fa nt dgt cot lit y0 y1 y2 y3 y4 y5 : Int32} {br : Bool} {ss pP pH pF pT pS pD pC tb bP bH op f1 f2 l0 l1 l2 l3 l4 l5 bPd bHd opd f1d f2d l0d l1d l2d l3d l4d l5d sf0 pPt pHt pFt pTt pSt pDt pCt : Nat → Int32} {nm nmd vf0 : Nat → Int64} {kf0 : Nat → Option Nat} {q : Int32} (hN : N ≤ 12)  : Cq Z l yX8_housesInTheDark cX8_housesInTheDark 2 (some .int) (rmM 8 1 6) [.ref (x 0), .int q] ((((((((wRg Z x t b p h r a e er ++ wSt Z e nt dgt cot lit pPt pHt pFt pTt pSt pDt pCt) ++ wSt Z a (nI N) dg co li pP pH pF pT pS pD pC) ++ wRk Z r h sk ss) ++ wBk Z h L (nI N) (nI u) sc nm bP bH op f1 f2 l0 l1 l2 l3 l4 l5) ++ wBk Z b Ld hcd lcd scd nmd bPd bHd opd f1d f2d l0d l1d l2d l3d l4d l5d) ++ wPa Z p kk b ti si nk br fl fa y0 y1 y2 y3 y4 y5) ++ wTk Z kk t ct kf0 sf0 vf0) ++ wTp Z t (nI tm) tb) (fun v w => v = some (.int (nI (cntN (dkB N pD q) N))) ∧ w = ((((((((wRg Z x t b p h r a e er ++ wSt Z e nt dgt cot lit pPt pHt pFt pTt pSt pDt pCt) ++ wSt Z a (nI N) dg co li pP pH pF pT pS pD pC) ++ wRk Z r h sk ss) ++ wBk Z h L (nI N) (nI u) sc nm bP bH op f1 f2 l0 l1 l2 l3 l4 l5) ++ wBk Z b Ld hcd lcd scd nmd bPd bHd opd f1d f2d l0d l1d l2d l3d l4d l5d) ++ wPa Z p kk b ti si nk br fl fa y0 y1 y2 y3 y4 y5) ++ wTk Z kk t ct kf0 sf0 vf0) ++ wTp Z t (nI tm) tb) ∧ ¬ (q < 0 ∨ 24 ≤ q)) (fun E => (E = "java/lang/IndexOutOfBoundsException" ∧ (q < 0 ∨ 24 ≤ q))) := by
  refine Cq.ofJ (own := RX8) (nm := "housesInTheDark") (lv0 := [(0, .ref (x 0)), (1, .int q)]) (by decide) rfl rfl (Nat.le_of_ble_eq_true rfl) rfl (fun X hXl C E hT => ?_)
  subst hXl
  refine J_iload_n C iX8_housesInTheDark_0 rfl rfl ?_
  refine J_xS (As := [.int q]) (st := []) (w0 := []) (rc2 := 0) (rs2 := 0) C E hT iX8_housesInTheDark_1 lm_X8_146 yc_X8_checkHour ys_X8_checkHour (c_X8_checkHour hl (q := q)) ((((((((wRg Z x t b p h r a e er ++ wSt Z e nt dgt cot lit pPt pHt pFt pTt pSt pDt pCt) ++ wSt Z a (nI N) dg co li pP pH pF pT pS pD pC) ++ wRk Z r h sk ss) ++ wBk Z h L (nI N) (nI u) sc nm bP bH op f1 f2 l0 l1 l2 l3 l4 l5) ++ wBk Z b Ld hcd lcd scd nmd bPd bHd opd f1d f2d l0d l1d l2d l3d l4d l5d) ++ wPa Z p kk b ti si nk br fl fa y0 y1 y2 y3 y4 y5) ++ wTk Z kk t ct kf0 sf0 vf0) ++ wTp Z t (nI tm) tb) [] (by simp only [List.append_assoc, List.append_nil, List.nil_append]) rfl (fun E h => ⟨h.1, h.2⟩) rfl ⟨by decide, by decide⟩ (Nat.le_of_ble_eq_true rfl) rfl rfl ?_
  rintro _ _ ⟨rfl, rfl, hk0⟩
  refine J_st ([]) rfl ?_
  refine J_ws ((((((((wRg Z x t b p h r a e er ++ wSt Z e nt dgt cot lit pPt pHt pFt pTt pSt pDt pCt) ++ wSt Z a (nI N) dg co li pP pH pF pT pS pD pC) ++ wRk Z r h sk ss) ++ wBk Z h L (nI N) (nI u) sc nm bP bH op f1 f2 l0 l1 l2 l3 l4 l5) ++ wBk Z b Ld hcd lcd scd nmd bPd bHd opd f1d f2d l0d l1d l2d l3d l4d l5d) ++ wPa Z p kk b ti si nk br fl fa y0 y1 y2 y3 y4 y5) ++ wTk Z kk t ct kf0 sf0 vf0) ++ wTp Z t (nI tm) tb) (by simp only [List.append_assoc, List.append_nil, List.nil_append]) ?_
  refine J_aload_n C iX8_housesInTheDark_4 rfl rfl ?_
  refine J_iload_n C iX8_housesInTheDark_5 rfl rfl ?_
  refine J_cV (As := [.int q]) (st := []) (rc2 := 0) (rs2 := 0) C iX8_housesInTheDark_6 lm_X8_169 yc_X8_countDark yv_X8_countDark (c_X8_countDark (q := q) hN) (q0 := 0) rfl rfl rfl rfl ⟨by decide, by decide⟩ (Nat.le_of_ble_eq_true rfl) rfl rfl ?_
  rintro _ _ ⟨rfl, rfl⟩
  refine J_st (.int (nI (cntN (dkB N pD q) N)) :: []) rfl ?_
  exact J_x2m (J_iret C E iX8_housesInTheDark_9 ⟨rfl, rfl, hk0⟩)

set_option maxRecDepth 100000 in
set_option maxHeartbeats 4000000 in
theorem c_X8_lightHouses {Z : GZ} {l : Launch} {x t b p h r a e kk L Ld : Nat → Nat} {N u tm nk : Nat} {er dg co li sk scd hcd lcd sc ct ti si fl fa nt dgt cot lit y0 y1 y2 y3 y4 y5 : Int32} {br : Bool} {ss pP pH pF pT pS pD pC tb bP bH op f1 f2 l0 l1 l2 l3 l4 l5 bPd bHd opd f1d f2d l0d l1d l2d l3d l4d l5d sf0 pPt pHt pFt pTt pSt pDt pCt : Nat → Int32} {nm nmd vf0 : Nat → Int64} {kf0 : Nat → Option Nat} (hN : N ≤ 12)  : Ct Z l yX8_lightHouses cX8_lightHouses 3 (some .int) (rmK 3) [.ref (x 0)] ((((((((wRg Z x t b p h r a e er ++ wSt Z e nt dgt cot lit pPt pHt pFt pTt pSt pDt pCt) ++ wSt Z a (nI N) dg co li pP pH pF pT pS pD pC) ++ wRk Z r h sk ss) ++ wBk Z h L (nI N) (nI u) sc nm bP bH op f1 f2 l0 l1 l2 l3 l4 l5) ++ wBk Z b Ld hcd lcd scd nmd bPd bHd opd f1d f2d l0d l1d l2d l3d l4d l5d) ++ wPa Z p kk b ti si nk br fl fa y0 y1 y2 y3 y4 y5) ++ wTk Z kk t ct kf0 sf0 vf0) ++ wTp Z t (nI tm) tb) (fun v w => v = some (.int (nI (cntN (ltB N pD) N))) ∧ w = ((((((((wRg Z x t b p h r a e er ++ wSt Z e nt dgt cot lit pPt pHt pFt pTt pSt pDt pCt) ++ wSt Z a (nI N) dg co li pP pH pF pT pS pD pC) ++ wRk Z r h sk ss) ++ wBk Z h L (nI N) (nI u) sc nm bP bH op f1 f2 l0 l1 l2 l3 l4 l5) ++ wBk Z b Ld hcd lcd scd nmd bPd bHd opd f1d f2d l0d l1d l2d l3d l4d l5d) ++ wPa Z p kk b ti si nk br fl fa y0 y1 y2 y3 y4 y5) ++ wTk Z kk t ct kf0 sf0 vf0) ++ wTp Z t (nI tm) tb)) := by
  refine Ct.ofJ (own := RX8) (nm := "lightHouses") (lv0 := [(0, .ref (x 0))]) (by decide) rfl rfl (Nat.le_of_ble_eq_true rfl) rfl (fun X hXl C E => ?_)
  subst hXl
  refine J_iconst 0 C iX8_lightHouses_0 rfl ?_
  refine J_istore_n [(1, .int 0), (0, .ref (x 0))] C iX8_lightHouses_1 rfl (by decide) rfl ?_
  refine J_iconst 0 C iX8_lightHouses_2 rfl ?_
  refine J_istore_n [(2, .int 0), (1, .int 0), (0, .ref (x 0))] C iX8_lightHouses_3 rfl (by decide) rfl ?_
  refine J_lvm [(1, .int 0), (2, .int 0), (0, .ref (x 0))] rfl ?_
  refine J_for (fun k => [(1, .int (nI (cntN (ltB N pD) k))), (2, .int (nI k)), (0, .ref (x 0))]) (fun k => ((((((((wRg Z x t b p h r a e er ++ wSt Z e nt dgt cot lit pPt pHt pFt pTt pSt pDt pCt) ++ wSt Z a (nI N) dg co li pP pH pF pT pS pD pC) ++ wRk Z r h sk ss) ++ wBk Z h L (nI N) (nI u) sc nm bP bH op f1 f2 l0 l1 l2 l3 l4 l5) ++ wBk Z b Ld hcd lcd scd nmd bPd bHd opd f1d f2d l0d l1d l2d l3d l4d l5d) ++ wPa Z p kk b ti si nk br fl fa y0 y1 y2 y3 y4 y5) ++ wTk Z kk t ct kf0 sf0 vf0) ++ wTp Z t (nI tm) tb)) N 0 (by omega) ?_ (fun k hk0 hk ih => ?_)
  · refine J_iload_n C iX8_lightHouses_4 rfl rfl ?_
    refine J_aload_n C iX8_lightHouses_5 rfl rfl ?_
    refine J_get (.ref (a 0)) 0 C iX8_lightHouses_6 gf_X8_52 rfl rfl ?_
    refine J_get (.int (nI N)) 9 C iX8_lightHouses_9 gf_X8_95 rfl rfl ?_
    refine J_icmpge 35 C iX8_lightHouses_12 rfl (fun h12 => ?_) (fun h12 => absurd (nI_le (a := N) (b := N) (by omega) (by omega)) h12)
    refine J_iload_n C iX8_lightHouses_35 rfl rfl ?_
    exact J_iret C E iX8_lightHouses_36 ⟨rfl, rfl⟩
  · refine J_iload_n C iX8_lightHouses_4 rfl rfl ?_
    refine J_aload_n C iX8_lightHouses_5 rfl rfl ?_
    refine J_get (.ref (a 0)) 0 C iX8_lightHouses_6 gf_X8_52 rfl rfl ?_
    refine J_get (.int (nI N)) 9 C iX8_lightHouses_9 gf_X8_95 rfl rfl ?_
    refine J_icmpge 35 C iX8_lightHouses_12 rfl (fun h12 => absurd h12 (nI_ge (a := k) (b := N) (by omega) (by omega))) (fun h12 => ?_)
    refine J_aload_n C iX8_lightHouses_15 rfl rfl ?_
    refine J_get (.ref (a 0)) 0 C iX8_lightHouses_16 gf_X8_52 rfl rfl ?_
    refine J_iload_n C iX8_lightHouses_19 rfl rfl ?_
    refine J_cVb (As := [.int (nI k)]) (st := []) (rc2 := (rmK 3).cells) (rs2 := (rmK 3).slots) C iX8_lightHouses_20 lm_X8_110 yc_X5_lost yv_X5_lost c_X5_lost (q0 := 0) rfl rfl rfl (wRg Z x t b p h r a e er ++ wSt Z e nt dgt cot lit pPt pHt pFt pTt pSt pDt pCt) (((((wRk Z r h sk ss ++ wBk Z h L (nI N) (nI u) sc nm bP bH op f1 f2 l0 l1 l2 l3 l4 l5) ++ wBk Z b Ld hcd lcd scd nmd bPd bHd opd f1d f2d l0d l1d l2d l3d l4d l5d) ++ wPa Z p kk b ti si nk br fl fa y0 y1 y2 y3 y4 y5) ++ wTk Z kk t ct kf0 sf0 vf0) ++ wTp Z t (nI tm) tb) rfl rfl ⟨by decide, by decide⟩ (Nat.le_of_ble_eq_true rfl) rfl rfl ?_
    rintro _ _ ⟨rfl, rfl⟩
    refine J_st (.int (bitC (stAt (nI N) (nI k) pD 0)) :: []) rfl ?_
    refine J_ws ((((((((wRg Z x t b p h r a e er ++ wSt Z e nt dgt cot lit pPt pHt pFt pTt pSt pDt pCt) ++ wSt Z a (nI N) dg co li pP pH pF pT pS pD pC) ++ wRk Z r h sk ss) ++ wBk Z h L (nI N) (nI u) sc nm bP bH op f1 f2 l0 l1 l2 l3 l4 l5) ++ wBk Z b Ld hcd lcd scd nmd bPd bHd opd f1d f2d l0d l1d l2d l3d l4d l5d) ++ wPa Z p kk b ti si nk br fl fa y0 y1 y2 y3 y4 y5) ++ wTk Z kk t ct kf0 sf0 vf0) ++ wTp Z t (nI tm) tb) rfl ?_
    refine J_ifne 29 C iX8_lightHouses_23 rfl (fun h23 => ?_) (fun h23 => ?_)
    · refine J_iinc ((nI k) + 1) [(2, .int ((nI k) + 1)), (1, .int (nI (cntN (ltB N pD) k))), (0, .ref (x 0))] C iX8_lightHouses_29 rfl rfl (by decide) rfl ?_
      rw [show (nI k) + 1 = nI (k + 1) from nI_add _ _]
      refine J_goto 4 C iX8_lightHouses_32 rfl ?_
      refine J_lvm [(1, .int (nI (cntN (ltB N pD) k))), (2, .int (nI (k + 1))), (0, .ref (x 0))] rfl ?_
      rw [cntN_f (f := (ltB N pD)) (k := k) (decide_eq_false h23)]
      exact ih
    · refine J_iinc ((nI (cntN (ltB N pD) k)) + 1) [(1, .int ((nI (cntN (ltB N pD) k)) + 1)), (2, .int (nI k)), (0, .ref (x 0))] C iX8_lightHouses_26 rfl rfl (by decide) rfl ?_
      rw [show (nI (cntN (ltB N pD) k)) + 1 = nI ((cntN (ltB N pD) k) + 1) from nI_add _ _]
      refine J_iinc ((nI k) + 1) [(2, .int ((nI k) + 1)), (1, .int (nI ((cntN (ltB N pD) k) + 1))), (0, .ref (x 0))] C iX8_lightHouses_29 rfl rfl (by decide) rfl ?_
      rw [show (nI k) + 1 = nI (k + 1) from nI_add _ _]
      refine J_goto 4 C iX8_lightHouses_32 rfl ?_
      refine J_lvm [(1, .int (nI ((cntN (ltB N pD) k) + 1))), (2, .int (nI (k + 1))), (0, .ref (x 0))] rfl ?_
      rw [cntN_t (f := (ltB N pD)) (k := k) (decide_eq_true h23)]
      exact ih

set_option maxRecDepth 100000 in
set_option maxHeartbeats 4000000 in
theorem c_X8_worstHouse {Z : GZ} {l : Launch} (hl : l.stackTraces = false) {x t b p h r a e kk L Ld : Nat → Nat} {N u tm nk : Nat} {er dg co li sk scd hcd lcd sc ct ti si fl fa nt dgt cot lit y0 y1 y2 y3 y4 y5 : Int32} {br : Bool} {ss pP pH pF pT pS pD pC tb bP bH op f1 f2 l0 l1 l2 l3 l4 l5 bPd bHd opd f1d f2d l0d l1d l2d l3d l4d l5d sf0 pPt pHt pFt pTt pSt pDt pCt : Nat → Int32} {nm nmd vf0 : Nat → Int64} {kf0 : Nat → Option Nat} (hN : N ≤ 12)  : Cq Z l yX8_worstHouse cX8_worstHouse 3 (some .int) (rmM 8 1 6) [.ref (x 0)] ((((((((wRg Z x t b p h r a e er ++ wSt Z e nt dgt cot lit pPt pHt pFt pTt pSt pDt pCt) ++ wSt Z a (nI N) dg co li pP pH pF pT pS pD pC) ++ wRk Z r h sk ss) ++ wBk Z h L (nI N) (nI u) sc nm bP bH op f1 f2 l0 l1 l2 l3 l4 l5) ++ wBk Z b Ld hcd lcd scd nmd bPd bHd opd f1d f2d l0d l1d l2d l3d l4d l5d) ++ wPa Z p kk b ti si nk br fl fa y0 y1 y2 y3 y4 y5) ++ wTk Z kk t ct kf0 sf0 vf0) ++ wTp Z t (nI tm) tb) (fun v w => v = some (.int (nI (amx (lsI N pD) N))) ∧ w = ((((((((wRg Z x t b p h r a e er ++ wSt Z e nt dgt cot lit pPt pHt pFt pTt pSt pDt pCt) ++ wSt Z a (nI N) dg co li pP pH pF pT pS pD pC) ++ wRk Z r h sk ss) ++ wBk Z h L (nI N) (nI u) sc nm bP bH op f1 f2 l0 l1 l2 l3 l4 l5) ++ wBk Z b Ld hcd lcd scd nmd bPd bHd opd f1d f2d l0d l1d l2d l3d l4d l5d) ++ wPa Z p kk b ti si nk br fl fa y0 y1 y2 y3 y4 y5) ++ wTk Z kk t ct kf0 sf0 vf0) ++ wTp Z t (nI tm) tb) ∧ ¬ nI N = 0) (fun E => (E = "java/lang/IllegalStateException" ∧ nI N = 0)) := by
  refine Cq.ofJ (own := RX8) (nm := "worstHouse") (lv0 := [(0, .ref (x 0))]) (by decide) rfl rfl (Nat.le_of_ble_eq_true rfl) rfl (fun X hXl C E hT => ?_)
  subst hXl
  refine J_aload_n C iX8_worstHouse_0 rfl rfl ?_
  refine J_get (.ref (a 0)) 0 C iX8_worstHouse_1 gf_X8_52 rfl rfl ?_
  refine J_get (.int (nI N)) 9 C iX8_worstHouse_4 gf_X8_95 rfl rfl ?_
  refine J_ifne 20 C iX8_worstHouse_7 rfl (fun h7 => ?_) (fun h7 => ?_)
  · refine J_iconst 0 C iX8_worstHouse_20 rfl ?_
    refine J_istore_n [(1, .int 0), (0, .ref (x 0))] C iX8_worstHouse_21 rfl (by decide) rfl ?_
    refine J_iconst 1 C iX8_worstHouse_22 rfl ?_
    refine J_istore_n [(2, .int 1), (1, .int 0), (0, .ref (x 0))] C iX8_worstHouse_23 rfl (by decide) rfl ?_
    have hN1 : 1 ≤ N := by
      rcases N with _ | N
      · exact absurd rfl h7
      · omega
    refine J_lvm [(1, .int 0), (2, .int 1), (0, .ref (x 0))] rfl ?_
    refine J_lvm [(1, .int (nI (amx (lsI N pD) 1))), (2, .int (nI 1)), (0, .ref (x 0))] (by rw [amx_1]; rfl) ?_
    refine J_for (fun k => [(1, .int (nI (amx (lsI N pD) k))), (2, .int (nI k)), (0, .ref (x 0))]) (fun k => ((((((((wRg Z x t b p h r a e er ++ wSt Z e nt dgt cot lit pPt pHt pFt pTt pSt pDt pCt) ++ wSt Z a (nI N) dg co li pP pH pF pT pS pD pC) ++ wRk Z r h sk ss) ++ wBk Z h L (nI N) (nI u) sc nm bP bH op f1 f2 l0 l1 l2 l3 l4 l5) ++ wBk Z b Ld hcd lcd scd nmd bPd bHd opd f1d f2d l0d l1d l2d l3d l4d l5d) ++ wPa Z p kk b ti si nk br fl fa y0 y1 y2 y3 y4 y5) ++ wTk Z kk t ct kf0 sf0 vf0) ++ wTp Z t (nI tm) tb)) N 1 (by omega) ?_ (fun k hk0 hk ih => ?_)
    · refine J_iload_n C iX8_worstHouse_24 rfl rfl ?_
      refine J_aload_n C iX8_worstHouse_25 rfl rfl ?_
      refine J_get (.ref (a 0)) 0 C iX8_worstHouse_26 gf_X8_52 rfl rfl ?_
      refine J_get (.int (nI N)) 9 C iX8_worstHouse_29 gf_X8_95 rfl rfl ?_
      refine J_icmpge 62 C iX8_worstHouse_32 rfl (fun h32 => ?_) (fun h32 => absurd (nI_le (a := N) (b := N) (by omega) (by omega)) h32)
      refine J_iload_n C iX8_worstHouse_62 rfl rfl ?_
      exact J_x2m (J_iret C E iX8_worstHouse_63 ⟨rfl, rfl, h7⟩)
    · refine J_iload_n C iX8_worstHouse_24 rfl rfl ?_
      refine J_aload_n C iX8_worstHouse_25 rfl rfl ?_
      refine J_get (.ref (a 0)) 0 C iX8_worstHouse_26 gf_X8_52 rfl rfl ?_
      refine J_get (.int (nI N)) 9 C iX8_worstHouse_29 gf_X8_95 rfl rfl ?_
      refine J_icmpge 62 C iX8_worstHouse_32 rfl (fun h32 => absurd h32 (nI_ge (a := k) (b := N) (by omega) (by omega))) (fun h32 => ?_)
      refine J_aload_n C iX8_worstHouse_35 rfl rfl ?_
      refine J_get (.ref (a 0)) 0 C iX8_worstHouse_36 gf_X8_52 rfl rfl ?_
      refine J_iload_n C iX8_worstHouse_39 rfl rfl ?_
      refine J_cVb (As := [.int (nI k)]) (st := []) (rc2 := (rmM 8 1 6).cells) (rs2 := (rmM 8 1 6).slots) C iX8_worstHouse_40 lm_X8_110 yc_X5_lost yv_X5_lost c_X5_lost (q0 := 0) rfl rfl rfl (wRg Z x t b p h r a e er ++ wSt Z e nt dgt cot lit pPt pHt pFt pTt pSt pDt pCt) (((((wRk Z r h sk ss ++ wBk Z h L (nI N) (nI u) sc nm bP bH op f1 f2 l0 l1 l2 l3 l4 l5) ++ wBk Z b Ld hcd lcd scd nmd bPd bHd opd f1d f2d l0d l1d l2d l3d l4d l5d) ++ wPa Z p kk b ti si nk br fl fa y0 y1 y2 y3 y4 y5) ++ wTk Z kk t ct kf0 sf0 vf0) ++ wTp Z t (nI tm) tb) rfl rfl ⟨by decide, by decide⟩ (Nat.le_of_ble_eq_true rfl) rfl rfl ?_
      rintro _ _ ⟨rfl, rfl⟩
      refine J_st (.int (bitC (stAt (nI N) (nI k) pD 0)) :: []) rfl ?_
      refine J_ws ((((((((wRg Z x t b p h r a e er ++ wSt Z e nt dgt cot lit pPt pHt pFt pTt pSt pDt pCt) ++ wSt Z a (nI N) dg co li pP pH pF pT pS pD pC) ++ wRk Z r h sk ss) ++ wBk Z h L (nI N) (nI u) sc nm bP bH op f1 f2 l0 l1 l2 l3 l4 l5) ++ wBk Z b Ld hcd lcd scd nmd bPd bHd opd f1d f2d l0d l1d l2d l3d l4d l5d) ++ wPa Z p kk b ti si nk br fl fa y0 y1 y2 y3 y4 y5) ++ wTk Z kk t ct kf0 sf0 vf0) ++ wTp Z t (nI tm) tb) rfl ?_
      refine J_aload_n C iX8_worstHouse_43 rfl rfl ?_
      refine J_get (.ref (a 0)) 0 C iX8_worstHouse_44 gf_X8_52 rfl rfl ?_
      refine J_iload_n C iX8_worstHouse_47 rfl rfl ?_
      refine J_cVb (As := [.int (nI (amx (lsI N pD) k))]) (st := .int (bitC (stAt (nI N) (nI k) pD 0)) :: []) (rc2 := (rmM 8 1 6).cells) (rs2 := (rmM 8 1 6).slots) C iX8_worstHouse_48 lm_X8_110 yc_X5_lost yv_X5_lost c_X5_lost (q0 := 0) rfl rfl rfl (wRg Z x t b p h r a e er ++ wSt Z e nt dgt cot lit pPt pHt pFt pTt pSt pDt pCt) (((((wRk Z r h sk ss ++ wBk Z h L (nI N) (nI u) sc nm bP bH op f1 f2 l0 l1 l2 l3 l4 l5) ++ wBk Z b Ld hcd lcd scd nmd bPd bHd opd f1d f2d l0d l1d l2d l3d l4d l5d) ++ wPa Z p kk b ti si nk br fl fa y0 y1 y2 y3 y4 y5) ++ wTk Z kk t ct kf0 sf0 vf0) ++ wTp Z t (nI tm) tb) rfl rfl ⟨by decide, by decide⟩ (Nat.le_of_ble_eq_true rfl) rfl rfl ?_
      rintro _ _ ⟨rfl, rfl⟩
      refine J_st (.int (bitC (stAt (nI N) (nI (amx (lsI N pD) k)) pD 0)) :: .int (bitC (stAt (nI N) (nI k) pD 0)) :: []) rfl ?_
      refine J_ws ((((((((wRg Z x t b p h r a e er ++ wSt Z e nt dgt cot lit pPt pHt pFt pTt pSt pDt pCt) ++ wSt Z a (nI N) dg co li pP pH pF pT pS pD pC) ++ wRk Z r h sk ss) ++ wBk Z h L (nI N) (nI u) sc nm bP bH op f1 f2 l0 l1 l2 l3 l4 l5) ++ wBk Z b Ld hcd lcd scd nmd bPd bHd opd f1d f2d l0d l1d l2d l3d l4d l5d) ++ wPa Z p kk b ti si nk br fl fa y0 y1 y2 y3 y4 y5) ++ wTk Z kk t ct kf0 sf0 vf0) ++ wTp Z t (nI tm) tb) rfl ?_
      refine J_icmple 56 C iX8_worstHouse_51 rfl (fun h51 => ?_) (fun h51 => ?_)
      · refine J_iinc ((nI k) + 1) [(2, .int ((nI k) + 1)), (1, .int (nI (amx (lsI N pD) k))), (0, .ref (x 0))] C iX8_worstHouse_56 rfl rfl (by decide) rfl ?_
        rw [show (nI k) + 1 = nI (k + 1) from nI_add _ _]
        refine J_goto 24 C iX8_worstHouse_59 rfl ?_
        refine J_lvm [(1, .int (nI (amx (lsI N pD) k))), (2, .int (nI (k + 1))), (0, .ref (x 0))] rfl ?_
        rw [amx_f (f := (lsI N pD)) (k := k) (Int32.not_lt.mpr h51)]
        exact ih
      · refine J_iload_n C iX8_worstHouse_54 rfl rfl ?_
        refine J_istore_n [(1, .int (nI k)), (2, .int (nI k)), (0, .ref (x 0))] C iX8_worstHouse_55 rfl (by decide) rfl ?_
        refine J_iinc ((nI k) + 1) [(2, .int ((nI k) + 1)), (1, .int (nI k)), (0, .ref (x 0))] C iX8_worstHouse_56 rfl rfl (by decide) rfl ?_
        rw [show (nI k) + 1 = nI (k + 1) from nI_add _ _]
        refine J_goto 24 C iX8_worstHouse_59 rfl ?_
        refine J_lvm [(1, .int (nI k)), (2, .int (nI (k + 1))), (0, .ref (x 0))] rfl ?_
        rw [amx_t (f := (lsI N pD)) (k := k) (Int32.not_le.mp h51)]
        exact ih
  · exact J_throw (text := "there are no houses") C hl E hT iX8_worstHouse_10 iX8_worstHouse_13 iX8_worstHouse_14 iX8_worstHouse_16 iX8_worstHouse_19 (tsg_in (i := 359) (by decide +kernel) rfl) (tsg_in (i := 60) (by decide +kernel) rfl) (by decide) hat_70 (by decide) ⟨by decide, by decide⟩ (by decide) (by decide) ⟨rfl, h7⟩ rfl

set_option maxRecDepth 100000 in
set_option maxHeartbeats 4000000 in
theorem c_X8_darkestWall {Z : GZ} {l : Launch} (hl : l.stackTraces = false) {x t b p h r a e kk L Ld : Nat → Nat} {N u tm nk : Nat} {er dg co li sk scd hcd lcd sc ct ti si fl fa nt dgt cot lit y0 y1 y2 y3 y4 y5 : Int32} {br : Bool} {ss pP pH pF pT pS pD pC tb bP bH op f1 f2 l0 l1 l2 l3 l4 l5 bPd bHd opd f1d f2d l0d l1d l2d l3d l4d l5d sf0 pPt pHt pFt pTt pSt pDt pCt : Nat → Int32} {nm nmd vf0 : Nat → Int64} {kf0 : Nat → Option Nat} (hN : N ≤ 12)  : Cq Z l yX8_darkestWall cX8_darkestWall 3 (some .int) (rmM 8 1 6) [.ref (x 0)] ((((((((wRg Z x t b p h r a e er ++ wSt Z e nt dgt cot lit pPt pHt pFt pTt pSt pDt pCt) ++ wSt Z a (nI N) dg co li pP pH pF pT pS pD pC) ++ wRk Z r h sk ss) ++ wBk Z h L (nI N) (nI u) sc nm bP bH op f1 f2 l0 l1 l2 l3 l4 l5) ++ wBk Z b Ld hcd lcd scd nmd bPd bHd opd f1d f2d l0d l1d l2d l3d l4d l5d) ++ wPa Z p kk b ti si nk br fl fa y0 y1 y2 y3 y4 y5) ++ wTk Z kk t ct kf0 sf0 vf0) ++ wTp Z t (nI tm) tb) (fun v w => v = some (.int (nI (amx (csI N pC) N))) ∧ w = ((((((((wRg Z x t b p h r a e er ++ wSt Z e nt dgt cot lit pPt pHt pFt pTt pSt pDt pCt) ++ wSt Z a (nI N) dg co li pP pH pF pT pS pD pC) ++ wRk Z r h sk ss) ++ wBk Z h L (nI N) (nI u) sc nm bP bH op f1 f2 l0 l1 l2 l3 l4 l5) ++ wBk Z b Ld hcd lcd scd nmd bPd bHd opd f1d f2d l0d l1d l2d l3d l4d l5d) ++ wPa Z p kk b ti si nk br fl fa y0 y1 y2 y3 y4 y5) ++ wTk Z kk t ct kf0 sf0 vf0) ++ wTp Z t (nI tm) tb) ∧ ¬ nI N = 0) (fun E => (E = "java/lang/IllegalStateException" ∧ nI N = 0)) := by
  refine Cq.ofJ (own := RX8) (nm := "darkestWall") (lv0 := [(0, .ref (x 0))]) (by decide) rfl rfl (Nat.le_of_ble_eq_true rfl) rfl (fun X hXl C E hT => ?_)
  subst hXl
  refine J_aload_n C iX8_darkestWall_0 rfl rfl ?_
  refine J_get (.ref (a 0)) 0 C iX8_darkestWall_1 gf_X8_52 rfl rfl ?_
  refine J_get (.int (nI N)) 9 C iX8_darkestWall_4 gf_X8_95 rfl rfl ?_
  refine J_ifne 20 C iX8_darkestWall_7 rfl (fun h7 => ?_) (fun h7 => ?_)
  · refine J_iconst 0 C iX8_darkestWall_20 rfl ?_
    refine J_istore_n [(1, .int 0), (0, .ref (x 0))] C iX8_darkestWall_21 rfl (by decide) rfl ?_
    refine J_iconst 1 C iX8_darkestWall_22 rfl ?_
    refine J_istore_n [(2, .int 1), (1, .int 0), (0, .ref (x 0))] C iX8_darkestWall_23 rfl (by decide) rfl ?_
    have hN1 : 1 ≤ N := by
      rcases N with _ | N
      · exact absurd rfl h7
      · omega
    refine J_lvm [(1, .int 0), (2, .int 1), (0, .ref (x 0))] rfl ?_
    refine J_lvm [(1, .int (nI (amx (csI N pC) 1))), (2, .int (nI 1)), (0, .ref (x 0))] (by rw [amx_1]; rfl) ?_
    refine J_for (fun k => [(1, .int (nI (amx (csI N pC) k))), (2, .int (nI k)), (0, .ref (x 0))]) (fun k => ((((((((wRg Z x t b p h r a e er ++ wSt Z e nt dgt cot lit pPt pHt pFt pTt pSt pDt pCt) ++ wSt Z a (nI N) dg co li pP pH pF pT pS pD pC) ++ wRk Z r h sk ss) ++ wBk Z h L (nI N) (nI u) sc nm bP bH op f1 f2 l0 l1 l2 l3 l4 l5) ++ wBk Z b Ld hcd lcd scd nmd bPd bHd opd f1d f2d l0d l1d l2d l3d l4d l5d) ++ wPa Z p kk b ti si nk br fl fa y0 y1 y2 y3 y4 y5) ++ wTk Z kk t ct kf0 sf0 vf0) ++ wTp Z t (nI tm) tb)) N 1 (by omega) ?_ (fun k hk0 hk ih => ?_)
    · refine J_iload_n C iX8_darkestWall_24 rfl rfl ?_
      refine J_aload_n C iX8_darkestWall_25 rfl rfl ?_
      refine J_get (.ref (a 0)) 0 C iX8_darkestWall_26 gf_X8_52 rfl rfl ?_
      refine J_get (.int (nI N)) 9 C iX8_darkestWall_29 gf_X8_95 rfl rfl ?_
      refine J_icmpge 62 C iX8_darkestWall_32 rfl (fun h32 => ?_) (fun h32 => absurd (nI_le (a := N) (b := N) (by omega) (by omega)) h32)
      refine J_iload_n C iX8_darkestWall_62 rfl rfl ?_
      exact J_x2m (J_iret C E iX8_darkestWall_63 ⟨rfl, rfl, h7⟩)
    · refine J_iload_n C iX8_darkestWall_24 rfl rfl ?_
      refine J_aload_n C iX8_darkestWall_25 rfl rfl ?_
      refine J_get (.ref (a 0)) 0 C iX8_darkestWall_26 gf_X8_52 rfl rfl ?_
      refine J_get (.int (nI N)) 9 C iX8_darkestWall_29 gf_X8_95 rfl rfl ?_
      refine J_icmpge 62 C iX8_darkestWall_32 rfl (fun h32 => absurd h32 (nI_ge (a := k) (b := N) (by omega) (by omega))) (fun h32 => ?_)
      refine J_aload_n C iX8_darkestWall_35 rfl rfl ?_
      refine J_get (.ref (a 0)) 0 C iX8_darkestWall_36 gf_X8_52 rfl rfl ?_
      refine J_iload_n C iX8_darkestWall_39 rfl rfl ?_
      refine J_cVb (As := [.int (nI k)]) (st := []) (rc2 := (rmM 8 1 6).cells) (rs2 := (rmM 8 1 6).slots) C iX8_darkestWall_40 lm_X8_116 yc_X5_cast yv_X5_cast c_X5_cast (q0 := 0) rfl rfl rfl (wRg Z x t b p h r a e er ++ wSt Z e nt dgt cot lit pPt pHt pFt pTt pSt pDt pCt) (((((wRk Z r h sk ss ++ wBk Z h L (nI N) (nI u) sc nm bP bH op f1 f2 l0 l1 l2 l3 l4 l5) ++ wBk Z b Ld hcd lcd scd nmd bPd bHd opd f1d f2d l0d l1d l2d l3d l4d l5d) ++ wPa Z p kk b ti si nk br fl fa y0 y1 y2 y3 y4 y5) ++ wTk Z kk t ct kf0 sf0 vf0) ++ wTp Z t (nI tm) tb) rfl rfl ⟨by decide, by decide⟩ (Nat.le_of_ble_eq_true rfl) rfl rfl ?_
      rintro _ _ ⟨rfl, rfl⟩
      refine J_st (.int (stAt (nI N) (nI k) pC 0) :: []) rfl ?_
      refine J_ws ((((((((wRg Z x t b p h r a e er ++ wSt Z e nt dgt cot lit pPt pHt pFt pTt pSt pDt pCt) ++ wSt Z a (nI N) dg co li pP pH pF pT pS pD pC) ++ wRk Z r h sk ss) ++ wBk Z h L (nI N) (nI u) sc nm bP bH op f1 f2 l0 l1 l2 l3 l4 l5) ++ wBk Z b Ld hcd lcd scd nmd bPd bHd opd f1d f2d l0d l1d l2d l3d l4d l5d) ++ wPa Z p kk b ti si nk br fl fa y0 y1 y2 y3 y4 y5) ++ wTk Z kk t ct kf0 sf0 vf0) ++ wTp Z t (nI tm) tb) rfl ?_
      refine J_aload_n C iX8_darkestWall_43 rfl rfl ?_
      refine J_get (.ref (a 0)) 0 C iX8_darkestWall_44 gf_X8_52 rfl rfl ?_
      refine J_iload_n C iX8_darkestWall_47 rfl rfl ?_
      refine J_cVb (As := [.int (nI (amx (csI N pC) k))]) (st := .int (stAt (nI N) (nI k) pC 0) :: []) (rc2 := (rmM 8 1 6).cells) (rs2 := (rmM 8 1 6).slots) C iX8_darkestWall_48 lm_X8_116 yc_X5_cast yv_X5_cast c_X5_cast (q0 := 0) rfl rfl rfl (wRg Z x t b p h r a e er ++ wSt Z e nt dgt cot lit pPt pHt pFt pTt pSt pDt pCt) (((((wRk Z r h sk ss ++ wBk Z h L (nI N) (nI u) sc nm bP bH op f1 f2 l0 l1 l2 l3 l4 l5) ++ wBk Z b Ld hcd lcd scd nmd bPd bHd opd f1d f2d l0d l1d l2d l3d l4d l5d) ++ wPa Z p kk b ti si nk br fl fa y0 y1 y2 y3 y4 y5) ++ wTk Z kk t ct kf0 sf0 vf0) ++ wTp Z t (nI tm) tb) rfl rfl ⟨by decide, by decide⟩ (Nat.le_of_ble_eq_true rfl) rfl rfl ?_
      rintro _ _ ⟨rfl, rfl⟩
      refine J_st (.int (stAt (nI N) (nI (amx (csI N pC) k)) pC 0) :: .int (stAt (nI N) (nI k) pC 0) :: []) rfl ?_
      refine J_ws ((((((((wRg Z x t b p h r a e er ++ wSt Z e nt dgt cot lit pPt pHt pFt pTt pSt pDt pCt) ++ wSt Z a (nI N) dg co li pP pH pF pT pS pD pC) ++ wRk Z r h sk ss) ++ wBk Z h L (nI N) (nI u) sc nm bP bH op f1 f2 l0 l1 l2 l3 l4 l5) ++ wBk Z b Ld hcd lcd scd nmd bPd bHd opd f1d f2d l0d l1d l2d l3d l4d l5d) ++ wPa Z p kk b ti si nk br fl fa y0 y1 y2 y3 y4 y5) ++ wTk Z kk t ct kf0 sf0 vf0) ++ wTp Z t (nI tm) tb) rfl ?_
      refine J_icmple 56 C iX8_darkestWall_51 rfl (fun h51 => ?_) (fun h51 => ?_)
      · refine J_iinc ((nI k) + 1) [(2, .int ((nI k) + 1)), (1, .int (nI (amx (csI N pC) k))), (0, .ref (x 0))] C iX8_darkestWall_56 rfl rfl (by decide) rfl ?_
        rw [show (nI k) + 1 = nI (k + 1) from nI_add _ _]
        refine J_goto 24 C iX8_darkestWall_59 rfl ?_
        refine J_lvm [(1, .int (nI (amx (csI N pC) k))), (2, .int (nI (k + 1))), (0, .ref (x 0))] rfl ?_
        rw [amx_f (f := (csI N pC)) (k := k) (Int32.not_lt.mpr h51)]
        exact ih
      · refine J_iload_n C iX8_darkestWall_54 rfl rfl ?_
        refine J_istore_n [(1, .int (nI k)), (2, .int (nI k)), (0, .ref (x 0))] C iX8_darkestWall_55 rfl (by decide) rfl ?_
        refine J_iinc ((nI k) + 1) [(2, .int ((nI k) + 1)), (1, .int (nI k)), (0, .ref (x 0))] C iX8_darkestWall_56 rfl rfl (by decide) rfl ?_
        rw [show (nI k) + 1 = nI (k + 1) from nI_add _ _]
        refine J_goto 24 C iX8_darkestWall_59 rfl ?_
        refine J_lvm [(1, .int (nI k)), (2, .int (nI (k + 1))), (0, .ref (x 0))] rfl ?_
        rw [amx_t (f := (csI N pC)) (k := k) (Int32.not_le.mp h51)]
        exact ih
  · exact J_throw (text := "there are no houses") C hl E hT iX8_darkestWall_10 iX8_darkestWall_13 iX8_darkestWall_14 iX8_darkestWall_16 iX8_darkestWall_19 (tsg_in (i := 359) (by decide +kernel) rfl) (tsg_in (i := 60) (by decide +kernel) rfl) (by decide) hat_70 (by decide) ⟨by decide, by decide⟩ (by decide) (by decide) ⟨rfl, h7⟩ rfl

set_option maxRecDepth 100000 in
set_option maxHeartbeats 4000000 in
theorem c_X8_shadedBy {Z : GZ} {l : Launch} (hl : l.stackTraces = false) {x t b p h r a e kk L Ld : Nat → Nat} {N u tm nk : Nat} {er dg co li sk scd hcd lcd sc ct ti si fl fa nt dgt cot lit y0 y1 y2 y3 y4 y5 : Int32} {br : Bool} {ss pP pH pF pT pS pD pC tb bP bH op f1 f2 l0 l1 l2 l3 l4 l5 bPd bHd opd f1d f2d l0d l1d l2d l3d l4d l5d sf0 pPt pHt pFt pTt pSt pDt pCt : Nat → Int32} {nm nmd vf0 : Nat → Int64} {kf0 : Nat → Option Nat} {q : Int32} {g : Int32} (hN : N ≤ 12)  : Cq Z l yX8_shadedBy cX8_shadedBy 7 (some .int) (rmM 8 3 18) [.ref (x 0), .int q, .int g] ((((((((wRg Z x t b p h r a e er ++ wSt Z e nt dgt cot lit pPt pHt pFt pTt pSt pDt pCt) ++ wSt Z a (nI N) dg co li pP pH pF pT pS pD pC) ++ wRk Z r h sk ss) ++ wBk Z h L (nI N) (nI u) sc nm bP bH op f1 f2 l0 l1 l2 l3 l4 l5) ++ wBk Z b Ld hcd lcd scd nmd bPd bHd opd f1d f2d l0d l1d l2d l3d l4d l5d) ++ wPa Z p kk b ti si nk br fl fa y0 y1 y2 y3 y4 y5) ++ wTk Z kk t ct kf0 sf0 vf0) ++ wTp Z t (nI tm) tb) (fun v w => v = some (.int ((sbX N pP pS q g N).1)) ∧ w = ((((((((wRg Z x t b p h r a e er ++ wSt Z e nt dgt cot lit pPt pHt pFt pTt pSt pDt pCt) ++ wSt Z a (nI N) dg co li pP pH pF pT pS pD pC) ++ wRk Z r h sk ss) ++ wBk Z h L (nI N) (nI u) sc nm bP bH op f1 f2 l0 l1 l2 l3 l4 l5) ++ wBk Z b Ld hcd lcd scd nmd bPd bHd opd f1d f2d l0d l1d l2d l3d l4d l5d) ++ wPa Z p kk b ti si nk br fl fa y0 y1 y2 y3 y4 y5) ++ wTk Z kk t ct kf0 sf0 vf0) ++ wTp Z t (nI tm) tb) ∧ hasB (nI N) q = true ∧ ¬ (g < 0 ∨ 24 ≤ g) ∧ ¬ hhX (stAt (nI N) q pD 0) g = false) (fun E => (E = "java/lang/IndexOutOfBoundsException" ∧ ¬ hasB (nI N) q = true) ∨ (E = "java/lang/IndexOutOfBoundsException" ∧ hasB (nI N) q = true ∧ (g < 0 ∨ 24 ≤ g)) ∨ (E = "java/lang/IllegalStateException" ∧ hasB (nI N) q = true ∧ ¬ (g < 0 ∨ 24 ≤ g) ∧ hhX (stAt (nI N) q pD 0) g = false)) := by
  refine Cq.ofJ (own := RX8) (nm := "shadedBy") (lv0 := [(0, .ref (x 0)), (1, .int q), (2, .int g)]) (by decide) rfl rfl (Nat.le_of_ble_eq_true rfl) rfl (fun X hXl C E hT => ?_)
  subst hXl
  refine J_aload_n C iX8_shadedBy_0 rfl rfl ?_
  refine J_iload_n C iX8_shadedBy_1 rfl rfl ?_
  refine J_xV (As := [.int q]) (st := []) (w0 := ((((((((wRg Z x t b p h r a e er ++ wSt Z e nt dgt cot lit pPt pHt pFt pTt pSt pDt pCt) ++ wSt Z a (nI N) dg co li pP pH pF pT pS pD pC) ++ wRk Z r h sk ss) ++ wBk Z h L (nI N) (nI u) sc nm bP bH op f1 f2 l0 l1 l2 l3 l4 l5) ++ wBk Z b Ld hcd lcd scd nmd bPd bHd opd f1d f2d l0d l1d l2d l3d l4d l5d) ++ wPa Z p kk b ti si nk br fl fa y0 y1 y2 y3 y4 y5) ++ wTk Z kk t ct kf0 sf0 vf0) ++ wTp Z t (nI tm) tb)) (rc2 := 2) (rs2 := 12) C E hT iX8_shadedBy_2 lm_X8_119 yc_X8_checkHouse yv_X8_checkHouse (c_X8_checkHouse hl (q := q)) (q0 := 0) rfl rfl rfl [] [] (by simp only [List.append_assoc, List.append_nil, List.nil_append]) rfl (fun E h => Or.inl ⟨h.1, h.2⟩) rfl ⟨by decide, by decide⟩ (Nat.le_of_ble_eq_true rfl) rfl rfl ?_
  rintro _ _ ⟨rfl, rfl, hk0⟩
  refine J_st ([]) rfl ?_
  refine J_ws ((((((((wRg Z x t b p h r a e er ++ wSt Z e nt dgt cot lit pPt pHt pFt pTt pSt pDt pCt) ++ wSt Z a (nI N) dg co li pP pH pF pT pS pD pC) ++ wRk Z r h sk ss) ++ wBk Z h L (nI N) (nI u) sc nm bP bH op f1 f2 l0 l1 l2 l3 l4 l5) ++ wBk Z b Ld hcd lcd scd nmd bPd bHd opd f1d f2d l0d l1d l2d l3d l4d l5d) ++ wPa Z p kk b ti si nk br fl fa y0 y1 y2 y3 y4 y5) ++ wTk Z kk t ct kf0 sf0 vf0) ++ wTp Z t (nI tm) tb) (by simp only [List.append_assoc, List.append_nil, List.nil_append]) ?_
  refine J_iload_n C iX8_shadedBy_5 rfl rfl ?_
  refine J_xS (As := [.int g]) (st := []) (w0 := []) (rc2 := 1) (rs2 := 6) C E hT iX8_shadedBy_6 lm_X8_146 yc_X8_checkHour ys_X8_checkHour (c_X8_checkHour hl (q := g)) ((((((((wRg Z x t b p h r a e er ++ wSt Z e nt dgt cot lit pPt pHt pFt pTt pSt pDt pCt) ++ wSt Z a (nI N) dg co li pP pH pF pT pS pD pC) ++ wRk Z r h sk ss) ++ wBk Z h L (nI N) (nI u) sc nm bP bH op f1 f2 l0 l1 l2 l3 l4 l5) ++ wBk Z b Ld hcd lcd scd nmd bPd bHd opd f1d f2d l0d l1d l2d l3d l4d l5d) ++ wPa Z p kk b ti si nk br fl fa y0 y1 y2 y3 y4 y5) ++ wTk Z kk t ct kf0 sf0 vf0) ++ wTp Z t (nI tm) tb) [] (by simp only [List.append_assoc, List.append_nil, List.nil_append]) rfl (fun E h => Or.inr <| Or.inl ⟨h.1, hk0, h.2⟩) rfl ⟨by decide, by decide⟩ (Nat.le_of_ble_eq_true rfl) rfl rfl ?_
  rintro _ _ ⟨rfl, rfl, hk1⟩
  refine J_st ([]) rfl ?_
  refine J_ws ((((((((wRg Z x t b p h r a e er ++ wSt Z e nt dgt cot lit pPt pHt pFt pTt pSt pDt pCt) ++ wSt Z a (nI N) dg co li pP pH pF pT pS pD pC) ++ wRk Z r h sk ss) ++ wBk Z h L (nI N) (nI u) sc nm bP bH op f1 f2 l0 l1 l2 l3 l4 l5) ++ wBk Z b Ld hcd lcd scd nmd bPd bHd opd f1d f2d l0d l1d l2d l3d l4d l5d) ++ wPa Z p kk b ti si nk br fl fa y0 y1 y2 y3 y4 y5) ++ wTk Z kk t ct kf0 sf0 vf0) ++ wTp Z t (nI tm) tb) (by simp only [List.append_assoc, List.append_nil, List.nil_append]) ?_
  refine J_aload_n C iX8_shadedBy_9 rfl rfl ?_
  refine J_get (.ref (a 0)) 0 C iX8_shadedBy_10 gf_X8_52 rfl rfl ?_
  refine J_iload_n C iX8_shadedBy_13 rfl rfl ?_
  refine J_cVb (As := [.int q]) (st := []) (rc2 := 1) (rs2 := 6) C iX8_shadedBy_14 lm_X8_159 yc_X5_hoursDark yv_X5_hoursDark c_X5_hoursDark (q0 := 0) rfl rfl rfl (wRg Z x t b p h r a e er ++ wSt Z e nt dgt cot lit pPt pHt pFt pTt pSt pDt pCt) (((((wRk Z r h sk ss ++ wBk Z h L (nI N) (nI u) sc nm bP bH op f1 f2 l0 l1 l2 l3 l4 l5) ++ wBk Z b Ld hcd lcd scd nmd bPd bHd opd f1d f2d l0d l1d l2d l3d l4d l5d) ++ wPa Z p kk b ti si nk br fl fa y0 y1 y2 y3 y4 y5) ++ wTk Z kk t ct kf0 sf0 vf0) ++ wTp Z t (nI tm) tb) rfl rfl ⟨by decide, by decide⟩ (Nat.le_of_ble_eq_true rfl) rfl rfl ?_
  rintro _ _ ⟨rfl, rfl⟩
  refine J_st (.int (stAt (nI N) q pD 0) :: []) rfl ?_
  refine J_ws ((((((((wRg Z x t b p h r a e er ++ wSt Z e nt dgt cot lit pPt pHt pFt pTt pSt pDt pCt) ++ wSt Z a (nI N) dg co li pP pH pF pT pS pD pC) ++ wRk Z r h sk ss) ++ wBk Z h L (nI N) (nI u) sc nm bP bH op f1 f2 l0 l1 l2 l3 l4 l5) ++ wBk Z b Ld hcd lcd scd nmd bPd bHd opd f1d f2d l0d l1d l2d l3d l4d l5d) ++ wPa Z p kk b ti si nk br fl fa y0 y1 y2 y3 y4 y5) ++ wTk Z kk t ct kf0 sf0 vf0) ++ wTp Z t (nI tm) tb) rfl ?_
  refine J_iload_n C iX8_shadedBy_17 rfl rfl ?_
  refine J_cSp (As := [.int (stAt (nI N) q pD 0), .int g]) (st := []) C iX8_shadedBy_18 lm_X8_155 yc_X8_holdsHour ys_X8_holdsHour (c_X8_holdsHour (q := stAt (nI N) q pD 0) (g := g)) rfl ⟨by decide, by decide⟩ (Nat.le_of_ble_eq_true rfl) ⟨rfl, rfl⟩ ?_
  rintro _ rfl
  refine J_st (.int (b2i (hhX (stAt (nI N) q pD 0) g)) :: []) rfl ?_
  refine J_ifneb 34 C iX8_shadedBy_21 rfl (fun h21 => ?_) (fun h21 => ?_)
  · refine J_iconst (-1) C iX8_shadedBy_34 rfl ?_
    refine J_istore_n [(3, .int (-1)), (0, .ref (x 0)), (1, .int q), (2, .int g)] C iX8_shadedBy_35 rfl (by decide) rfl ?_
    refine J_bipush 100 C iX8_shadedBy_36 rfl ?_
    refine J_istore [(4, .int 100), (3, .int (-1)), (0, .ref (x 0)), (1, .int q), (2, .int g)] C iX8_shadedBy_38 (by decide) rfl ?_
    refine J_iconst 0 C iX8_shadedBy_40 rfl ?_
    refine J_istore [(5, .int 0), (4, .int 100), (3, .int (-1)), (0, .ref (x 0)), (1, .int q), (2, .int g)] C iX8_shadedBy_41 (by decide) rfl ?_
    refine J_lvm [(3, .int ((sbX N pP pS q g 0).1)), (4, .int ((sbX N pP pS q g 0).2)), (5, .int 0), (0, .ref (x 0)), (1, .int q), (2, .int g)] rfl ?_
    refine J_for (fun k => [(3, .int ((sbX N pP pS q g k).1)), (4, .int ((sbX N pP pS q g k).2)), (5, .int (nI k)), (0, .ref (x 0)), (1, .int q), (2, .int g)]) (fun k => ((((((((wRg Z x t b p h r a e er ++ wSt Z e nt dgt cot lit pPt pHt pFt pTt pSt pDt pCt) ++ wSt Z a (nI N) dg co li pP pH pF pT pS pD pC) ++ wRk Z r h sk ss) ++ wBk Z h L (nI N) (nI u) sc nm bP bH op f1 f2 l0 l1 l2 l3 l4 l5) ++ wBk Z b Ld hcd lcd scd nmd bPd bHd opd f1d f2d l0d l1d l2d l3d l4d l5d) ++ wPa Z p kk b ti si nk br fl fa y0 y1 y2 y3 y4 y5) ++ wTk Z kk t ct kf0 sf0 vf0) ++ wTp Z t (nI tm) tb)) N 0 (by omega) ?_ (fun k hk0 hk ih => ?_)
    · refine J_iload C iX8_shadedBy_43 rfl ?_
      refine J_aload_n C iX8_shadedBy_45 rfl rfl ?_
      refine J_get (.ref (a 0)) 0 C iX8_shadedBy_46 gf_X8_52 rfl rfl ?_
      refine J_get (.int (nI N)) 9 C iX8_shadedBy_49 gf_X8_95 rfl rfl ?_
      refine J_icmpge 115 C iX8_shadedBy_52 rfl (fun h52 => ?_) (fun h52 => absurd (nI_le (a := N) (b := N) (by omega) (by omega)) h52)
      refine J_iload_n C iX8_shadedBy_115 rfl rfl ?_
      exact J_x2m (J_iret C E iX8_shadedBy_116 ⟨rfl, rfl, hk0, hk1, (fun e9 => absurd (h21.symm.trans e9) (by decide))⟩)
    · refine J_iload C iX8_shadedBy_43 rfl ?_
      refine J_aload_n C iX8_shadedBy_45 rfl rfl ?_
      refine J_get (.ref (a 0)) 0 C iX8_shadedBy_46 gf_X8_52 rfl rfl ?_
      refine J_get (.int (nI N)) 9 C iX8_shadedBy_49 gf_X8_95 rfl rfl ?_
      refine J_icmpge 115 C iX8_shadedBy_52 rfl (fun h52 => absurd h52 (nI_ge (a := k) (b := N) (by omega) (by omega))) (fun h52 => ?_)
      refine J_aload_n C iX8_shadedBy_55 rfl rfl ?_
      refine J_get (.ref (a 0)) 0 C iX8_shadedBy_56 gf_X8_52 rfl rfl ?_
      refine J_iload C iX8_shadedBy_59 rfl ?_
      refine J_cVb (As := [.int (nI k)]) (st := []) (rc2 := 1) (rs2 := 6) C iX8_shadedBy_61 lm_X8_122 yc_X5_place yv_X5_place c_X5_place (q0 := 0) rfl rfl rfl (wRg Z x t b p h r a e er ++ wSt Z e nt dgt cot lit pPt pHt pFt pTt pSt pDt pCt) (((((wRk Z r h sk ss ++ wBk Z h L (nI N) (nI u) sc nm bP bH op f1 f2 l0 l1 l2 l3 l4 l5) ++ wBk Z b Ld hcd lcd scd nmd bPd bHd opd f1d f2d l0d l1d l2d l3d l4d l5d) ++ wPa Z p kk b ti si nk br fl fa y0 y1 y2 y3 y4 y5) ++ wTk Z kk t ct kf0 sf0 vf0) ++ wTp Z t (nI tm) tb) rfl rfl ⟨by decide, by decide⟩ (Nat.le_of_ble_eq_true rfl) rfl rfl ?_
      rintro _ _ ⟨rfl, rfl⟩
      refine J_st (.int (stAt (nI N) (nI k) pP (-1)) :: []) rfl ?_
      refine J_ws ((((((((wRg Z x t b p h r a e er ++ wSt Z e nt dgt cot lit pPt pHt pFt pTt pSt pDt pCt) ++ wSt Z a (nI N) dg co li pP pH pF pT pS pD pC) ++ wRk Z r h sk ss) ++ wBk Z h L (nI N) (nI u) sc nm bP bH op f1 f2 l0 l1 l2 l3 l4 l5) ++ wBk Z b Ld hcd lcd scd nmd bPd bHd opd f1d f2d l0d l1d l2d l3d l4d l5d) ++ wPa Z p kk b ti si nk br fl fa y0 y1 y2 y3 y4 y5) ++ wTk Z kk t ct kf0 sf0 vf0) ++ wTp Z t (nI tm) tb) rfl ?_
      refine J_aload_n C iX8_shadedBy_64 rfl rfl ?_
      refine J_get (.ref (a 0)) 0 C iX8_shadedBy_65 gf_X8_52 rfl rfl ?_
      refine J_iload_n C iX8_shadedBy_68 rfl rfl ?_
      refine J_cVb (As := [.int q]) (st := .int (stAt (nI N) (nI k) pP (-1)) :: []) (rc2 := 1) (rs2 := 6) C iX8_shadedBy_69 lm_X8_122 yc_X5_place yv_X5_place c_X5_place (q0 := 0) rfl rfl rfl (wRg Z x t b p h r a e er ++ wSt Z e nt dgt cot lit pPt pHt pFt pTt pSt pDt pCt) (((((wRk Z r h sk ss ++ wBk Z h L (nI N) (nI u) sc nm bP bH op f1 f2 l0 l1 l2 l3 l4 l5) ++ wBk Z b Ld hcd lcd scd nmd bPd bHd opd f1d f2d l0d l1d l2d l3d l4d l5d) ++ wPa Z p kk b ti si nk br fl fa y0 y1 y2 y3 y4 y5) ++ wTk Z kk t ct kf0 sf0 vf0) ++ wTp Z t (nI tm) tb) rfl rfl ⟨by decide, by decide⟩ (Nat.le_of_ble_eq_true rfl) rfl rfl ?_
      rintro _ _ ⟨rfl, rfl⟩
      refine J_st (.int (stAt (nI N) q pP (-1)) :: .int (stAt (nI N) (nI k) pP (-1)) :: []) rfl ?_
      refine J_ws ((((((((wRg Z x t b p h r a e er ++ wSt Z e nt dgt cot lit pPt pHt pFt pTt pSt pDt pCt) ++ wSt Z a (nI N) dg co li pP pH pF pT pS pD pC) ++ wRk Z r h sk ss) ++ wBk Z h L (nI N) (nI u) sc nm bP bH op f1 f2 l0 l1 l2 l3 l4 l5) ++ wBk Z b Ld hcd lcd scd nmd bPd bHd opd f1d f2d l0d l1d l2d l3d l4d l5d) ++ wPa Z p kk b ti si nk br fl fa y0 y1 y2 y3 y4 y5) ++ wTk Z kk t ct kf0 sf0 vf0) ++ wTp Z t (nI tm) tb) rfl ?_
      refine J_isub C iX8_shadedBy_72 ?_
      refine J_abs C iX8_shadedBy_73 (tsg_in (i := 554) (by decide +kernel) rfl) ma_abs_1 ma_i ma_abs_2 (by decide) (Nat.le_of_ble_eq_true rfl) ?_
      refine J_istore [(6, .int (if 0 ≤ (stAt (nI N) (nI k) pP (-1)) - (stAt (nI N) q pP (-1)) then (stAt (nI N) (nI k) pP (-1)) - (stAt (nI N) q pP (-1)) else 0 - ((stAt (nI N) (nI k) pP (-1)) - (stAt (nI N) q pP (-1))))), (3, .int ((sbX N pP pS q g k).1)), (4, .int ((sbX N pP pS q g k).2)), (5, .int (nI k)), (0, .ref (x 0)), (1, .int q), (2, .int g)] C iX8_shadedBy_76 (by decide) rfl ?_
      refine J_iload C iX8_shadedBy_78 rfl ?_
      refine J_iload C iX8_shadedBy_80 rfl ?_
      refine J_icmpge 109 C iX8_shadedBy_82 rfl (fun h82 => ?_) (fun h82 => ?_)
      · refine J_iinc ((nI k) + 1) [(5, .int ((nI k) + 1)), (6, .int (if 0 ≤ (stAt (nI N) (nI k) pP (-1)) - (stAt (nI N) q pP (-1)) then (stAt (nI N) (nI k) pP (-1)) - (stAt (nI N) q pP (-1)) else 0 - ((stAt (nI N) (nI k) pP (-1)) - (stAt (nI N) q pP (-1))))), (3, .int ((sbX N pP pS q g k).1)), (4, .int ((sbX N pP pS q g k).2)), (0, .ref (x 0)), (1, .int q), (2, .int g)] C iX8_shadedBy_109 rfl rfl (by decide) rfl ?_
        rw [show (nI k) + 1 = nI (k + 1) from nI_add _ _]
        refine J_goto 43 C iX8_shadedBy_112 rfl ?_
        refine J_lvm [(3, .int ((sbX N pP pS q g k).1)), (4, .int ((sbX N pP pS q g k).2)), (5, .int (nI (k + 1))), (0, .ref (x 0)), (1, .int q), (2, .int g)] rfl ?_
        rw [sbX_f (fun e9 => absurd e9.1 (Int32.not_lt.mpr h82))] at ih
        exact ih
      · refine J_aload_n C iX8_shadedBy_85 rfl rfl ?_
        refine J_get (.ref (a 0)) 0 C iX8_shadedBy_86 gf_X8_52 rfl rfl ?_
        refine J_iload_n C iX8_shadedBy_89 rfl rfl ?_
        refine J_iload C iX8_shadedBy_90 rfl ?_
        refine J_cVb (As := [.int q, .int (nI k)]) (st := []) (rc2 := 1) (rs2 := 6) C iX8_shadedBy_92 lm_X8_137 yc_X5_hoursShaded yv_X5_hoursShaded c_X5_hoursShaded (q0 := 0) rfl rfl rfl (wRg Z x t b p h r a e er ++ wSt Z e nt dgt cot lit pPt pHt pFt pTt pSt pDt pCt) (((((wRk Z r h sk ss ++ wBk Z h L (nI N) (nI u) sc nm bP bH op f1 f2 l0 l1 l2 l3 l4 l5) ++ wBk Z b Ld hcd lcd scd nmd bPd bHd opd f1d f2d l0d l1d l2d l3d l4d l5d) ++ wPa Z p kk b ti si nk br fl fa y0 y1 y2 y3 y4 y5) ++ wTk Z kk t ct kf0 sf0 vf0) ++ wTp Z t (nI tm) tb) rfl rfl ⟨by decide, by decide⟩ (Nat.le_of_ble_eq_true rfl) rfl rfl ?_
        rintro _ _ ⟨rfl, rfl⟩
        refine J_st (.int (shF (nI N) pS q (nI k)) :: []) rfl ?_
        refine J_ws ((((((((wRg Z x t b p h r a e er ++ wSt Z e nt dgt cot lit pPt pHt pFt pTt pSt pDt pCt) ++ wSt Z a (nI N) dg co li pP pH pF pT pS pD pC) ++ wRk Z r h sk ss) ++ wBk Z h L (nI N) (nI u) sc nm bP bH op f1 f2 l0 l1 l2 l3 l4 l5) ++ wBk Z b Ld hcd lcd scd nmd bPd bHd opd f1d f2d l0d l1d l2d l3d l4d l5d) ++ wPa Z p kk b ti si nk br fl fa y0 y1 y2 y3 y4 y5) ++ wTk Z kk t ct kf0 sf0 vf0) ++ wTp Z t (nI tm) tb) rfl ?_
        refine J_iload_n C iX8_shadedBy_95 rfl rfl ?_
        refine J_cSp (As := [.int (shF (nI N) pS q (nI k)), .int g]) (st := []) C iX8_shadedBy_96 lm_X8_155 yc_X8_holdsHour ys_X8_holdsHour (c_X8_holdsHour (q := shF (nI N) pS q (nI k)) (g := g)) rfl ⟨by decide, by decide⟩ (Nat.le_of_ble_eq_true rfl) ⟨rfl, rfl⟩ ?_
        rintro _ rfl
        refine J_st (.int (b2i (hhX (shF (nI N) pS q (nI k)) g)) :: []) rfl ?_
        refine J_ifeqb 109 C iX8_shadedBy_99 rfl (fun h99 => ?_) (fun h99 => ?_)
        · refine J_iinc ((nI k) + 1) [(5, .int ((nI k) + 1)), (6, .int (if 0 ≤ (stAt (nI N) (nI k) pP (-1)) - (stAt (nI N) q pP (-1)) then (stAt (nI N) (nI k) pP (-1)) - (stAt (nI N) q pP (-1)) else 0 - ((stAt (nI N) (nI k) pP (-1)) - (stAt (nI N) q pP (-1))))), (3, .int ((sbX N pP pS q g k).1)), (4, .int ((sbX N pP pS q g k).2)), (0, .ref (x 0)), (1, .int q), (2, .int g)] C iX8_shadedBy_109 rfl rfl (by decide) rfl ?_
          rw [show (nI k) + 1 = nI (k + 1) from nI_add _ _]
          refine J_goto 43 C iX8_shadedBy_112 rfl ?_
          refine J_lvm [(3, .int ((sbX N pP pS q g k).1)), (4, .int ((sbX N pP pS q g k).2)), (5, .int (nI (k + 1))), (0, .ref (x 0)), (1, .int q), (2, .int g)] rfl ?_
          rw [sbX_f (fun e9 => absurd (h99.symm.trans e9.2) (by decide))] at ih
          exact ih
        · refine J_iload C iX8_shadedBy_102 rfl ?_
          refine J_istore [(4, .int (if 0 ≤ (stAt (nI N) (nI k) pP (-1)) - (stAt (nI N) q pP (-1)) then (stAt (nI N) (nI k) pP (-1)) - (stAt (nI N) q pP (-1)) else 0 - ((stAt (nI N) (nI k) pP (-1)) - (stAt (nI N) q pP (-1))))), (6, .int (if 0 ≤ (stAt (nI N) (nI k) pP (-1)) - (stAt (nI N) q pP (-1)) then (stAt (nI N) (nI k) pP (-1)) - (stAt (nI N) q pP (-1)) else 0 - ((stAt (nI N) (nI k) pP (-1)) - (stAt (nI N) q pP (-1))))), (3, .int ((sbX N pP pS q g k).1)), (5, .int (nI k)), (0, .ref (x 0)), (1, .int q), (2, .int g)] C iX8_shadedBy_104 (by decide) rfl ?_
          refine J_iload C iX8_shadedBy_106 rfl ?_
          refine J_istore_n [(3, .int (nI k)), (4, .int (if 0 ≤ (stAt (nI N) (nI k) pP (-1)) - (stAt (nI N) q pP (-1)) then (stAt (nI N) (nI k) pP (-1)) - (stAt (nI N) q pP (-1)) else 0 - ((stAt (nI N) (nI k) pP (-1)) - (stAt (nI N) q pP (-1))))), (6, .int (if 0 ≤ (stAt (nI N) (nI k) pP (-1)) - (stAt (nI N) q pP (-1)) then (stAt (nI N) (nI k) pP (-1)) - (stAt (nI N) q pP (-1)) else 0 - ((stAt (nI N) (nI k) pP (-1)) - (stAt (nI N) q pP (-1))))), (5, .int (nI k)), (0, .ref (x 0)), (1, .int q), (2, .int g)] C iX8_shadedBy_108 rfl (by decide) rfl ?_
          refine J_iinc ((nI k) + 1) [(5, .int ((nI k) + 1)), (3, .int (nI k)), (4, .int (if 0 ≤ (stAt (nI N) (nI k) pP (-1)) - (stAt (nI N) q pP (-1)) then (stAt (nI N) (nI k) pP (-1)) - (stAt (nI N) q pP (-1)) else 0 - ((stAt (nI N) (nI k) pP (-1)) - (stAt (nI N) q pP (-1))))), (6, .int (if 0 ≤ (stAt (nI N) (nI k) pP (-1)) - (stAt (nI N) q pP (-1)) then (stAt (nI N) (nI k) pP (-1)) - (stAt (nI N) q pP (-1)) else 0 - ((stAt (nI N) (nI k) pP (-1)) - (stAt (nI N) q pP (-1))))), (0, .ref (x 0)), (1, .int q), (2, .int g)] C iX8_shadedBy_109 rfl rfl (by decide) rfl ?_
          rw [show (nI k) + 1 = nI (k + 1) from nI_add _ _]
          refine J_goto 43 C iX8_shadedBy_112 rfl ?_
          refine J_lvm [(3, .int (nI k)), (4, .int (if 0 ≤ (stAt (nI N) (nI k) pP (-1)) - (stAt (nI N) q pP (-1)) then (stAt (nI N) (nI k) pP (-1)) - (stAt (nI N) q pP (-1)) else 0 - ((stAt (nI N) (nI k) pP (-1)) - (stAt (nI N) q pP (-1))))), (5, .int (nI (k + 1))), (0, .ref (x 0)), (1, .int q), (2, .int g)] rfl ?_
          rw [sbX_t ⟨Int32.not_le.mp h82, h99⟩] at ih
          exact ih
  · exact J_throw (text := "it is not in the dark then") C hl E hT iX8_shadedBy_24 iX8_shadedBy_27 iX8_shadedBy_28 iX8_shadedBy_30 iX8_shadedBy_33 (tsg_in (i := 359) (by decide +kernel) rfl) (tsg_in (i := 60) (by decide +kernel) rfl) (by decide) hat_70 (by decide) ⟨by decide, by decide⟩ (by decide) (by decide) (Or.inr (Or.inr ⟨rfl, hk0, hk1, h21⟩)) rfl

