set_option maxRecDepth 100000 in
set_option maxHeartbeats 4000000 in
theorem c_X8_houses {Z : GZ} {l : Launch} {x t b p h r a e kk L Ld : Nat → Nat} {N u tm nk : Nat} {er dg co li sk scd hcd lcd sc ct ti si fl fa nt dgt cot lit y0 y1 y2 y3 y4 y5 : Int32} {br : Bool} {ss pP pH pF pT pS pD pC tb bP bH op f1 f2 l0 l1 l2 l3 l4 l5 bPd bHd opd f1d f2d l0d l1d l2d l3d l4d l5d sf0 pPt pHt pFt pTt pSt pDt pCt : Nat → Int32} {nm nmd vf0 : Nat → Int64} {kf0 : Nat → Option Nat}  : Ct Z l yX8_houses cX8_houses 1 (some .int) (rmK 0) [.ref (x 0)] ((((((((wRg Z x t b p h r a e er ++ wSt Z e nt dgt cot lit pPt pHt pFt pTt pSt pDt pCt) ++ wSt Z a (nI N) dg co li pP pH pF pT pS pD pC) ++ wRk Z r h sk ss) ++ wBk Z h L (nI N) (nI u) sc nm bP bH op f1 f2 l0 l1 l2 l3 l4 l5) ++ wBk Z b Ld hcd lcd scd nmd bPd bHd opd f1d f2d l0d l1d l2d l3d l4d l5d) ++ wPa Z p kk b ti si nk br fl fa y0 y1 y2 y3 y4 y5) ++ wTk Z kk t ct kf0 sf0 vf0) ++ wTp Z t (nI tm) tb) (fun v w => v = some (.int (nI N)) ∧ w = ((((((((wRg Z x t b p h r a e er ++ wSt Z e nt dgt cot lit pPt pHt pFt pTt pSt pDt pCt) ++ wSt Z a (nI N) dg co li pP pH pF pT pS pD pC) ++ wRk Z r h sk ss) ++ wBk Z h L (nI N) (nI u) sc nm bP bH op f1 f2 l0 l1 l2 l3 l4 l5) ++ wBk Z b Ld hcd lcd scd nmd bPd bHd opd f1d f2d l0d l1d l2d l3d l4d l5d) ++ wPa Z p kk b ti si nk br fl fa y0 y1 y2 y3 y4 y5) ++ wTk Z kk t ct kf0 sf0 vf0) ++ wTp Z t (nI tm) tb)) := by
  refine Ct.ofJ (own := RX8) (nm := "houses") (lv0 := [(0, .ref (x 0))]) (by decide) rfl rfl (Nat.le_of_ble_eq_true rfl) rfl (fun X hXl C E => ?_)
  subst hXl
  refine J_aload_n C iX8_houses_0 rfl rfl ?_
  refine J_get (.ref (a 0)) 0 C iX8_houses_1 gf_X8_52 rfl rfl ?_
  refine J_get (.int (nI N)) 9 C iX8_houses_4 gf_X8_95 rfl rfl ?_
  exact J_iret C E iX8_houses_7 ⟨rfl, rfl⟩

set_option maxRecDepth 100000 in
set_option maxHeartbeats 4000000 in
theorem c_X8_laws {Z : GZ} {l : Launch} {x t b p h r a e kk L Ld : Nat → Nat} {N u tm nk : Nat} {er dg co li sk scd hcd lcd sc ct ti si fl fa nt dgt cot lit y0 y1 y2 y3 y4 y5 : Int32} {br : Bool} {ss pP pH pF pT pS pD pC tb bP bH op f1 f2 l0 l1 l2 l3 l4 l5 bPd bHd opd f1d f2d l0d l1d l2d l3d l4d l5d sf0 pPt pHt pFt pTt pSt pDt pCt : Nat → Int32} {nm nmd vf0 : Nat → Int64} {kf0 : Nat → Option Nat}  : Ct Z l yX8_laws cX8_laws 1 (some .int) (rmK 0) [.ref (x 0)] ((((((((wRg Z x t b p h r a e er ++ wSt Z e nt dgt cot lit pPt pHt pFt pTt pSt pDt pCt) ++ wSt Z a (nI N) dg co li pP pH pF pT pS pD pC) ++ wRk Z r h sk ss) ++ wBk Z h L (nI N) (nI u) sc nm bP bH op f1 f2 l0 l1 l2 l3 l4 l5) ++ wBk Z b Ld hcd lcd scd nmd bPd bHd opd f1d f2d l0d l1d l2d l3d l4d l5d) ++ wPa Z p kk b ti si nk br fl fa y0 y1 y2 y3 y4 y5) ++ wTk Z kk t ct kf0 sf0 vf0) ++ wTp Z t (nI tm) tb) (fun v w => v = some (.int (nI u)) ∧ w = ((((((((wRg Z x t b p h r a e er ++ wSt Z e nt dgt cot lit pPt pHt pFt pTt pSt pDt pCt) ++ wSt Z a (nI N) dg co li pP pH pF pT pS pD pC) ++ wRk Z r h sk ss) ++ wBk Z h L (nI N) (nI u) sc nm bP bH op f1 f2 l0 l1 l2 l3 l4 l5) ++ wBk Z b Ld hcd lcd scd nmd bPd bHd opd f1d f2d l0d l1d l2d l3d l4d l5d) ++ wPa Z p kk b ti si nk br fl fa y0 y1 y2 y3 y4 y5) ++ wTk Z kk t ct kf0 sf0 vf0) ++ wTp Z t (nI tm) tb)) := by
  refine Ct.ofJ (own := RX8) (nm := "laws") (lv0 := [(0, .ref (x 0))]) (by decide) rfl rfl (Nat.le_of_ble_eq_true rfl) rfl (fun X hXl C E => ?_)
  subst hXl
  refine J_aload_n C iX8_laws_0 rfl rfl ?_
  refine J_get (.ref (h 0)) 0 C iX8_laws_1 gf_X8_37 rfl rfl ?_
  refine J_get (.int (nI u)) 19 C iX8_laws_4 gf_X8_98 rfl rfl ?_
  exact J_iret C E iX8_laws_7 ⟨rfl, rfl⟩

set_option maxRecDepth 100000 in
set_option maxHeartbeats 4000000 in
theorem c_X8_days {Z : GZ} {l : Launch} {x t b p h r a e kk L Ld : Nat → Nat} {N u tm nk : Nat} {er dg co li sk scd hcd lcd sc ct ti si fl fa nt dgt cot lit y0 y1 y2 y3 y4 y5 : Int32} {br : Bool} {ss pP pH pF pT pS pD pC tb bP bH op f1 f2 l0 l1 l2 l3 l4 l5 bPd bHd opd f1d f2d l0d l1d l2d l3d l4d l5d sf0 pPt pHt pFt pTt pSt pDt pCt : Nat → Int32} {nm nmd vf0 : Nat → Int64} {kf0 : Nat → Option Nat}  : Ct Z l yX8_days cX8_days 1 (some .int) (rmK 0) [.ref (x 0)] ((((((((wRg Z x t b p h r a e er ++ wSt Z e nt dgt cot lit pPt pHt pFt pTt pSt pDt pCt) ++ wSt Z a (nI N) dg co li pP pH pF pT pS pD pC) ++ wRk Z r h sk ss) ++ wBk Z h L (nI N) (nI u) sc nm bP bH op f1 f2 l0 l1 l2 l3 l4 l5) ++ wBk Z b Ld hcd lcd scd nmd bPd bHd opd f1d f2d l0d l1d l2d l3d l4d l5d) ++ wPa Z p kk b ti si nk br fl fa y0 y1 y2 y3 y4 y5) ++ wTk Z kk t ct kf0 sf0 vf0) ++ wTp Z t (nI tm) tb) (fun v w => v = some (.int dg) ∧ w = ((((((((wRg Z x t b p h r a e er ++ wSt Z e nt dgt cot lit pPt pHt pFt pTt pSt pDt pCt) ++ wSt Z a (nI N) dg co li pP pH pF pT pS pD pC) ++ wRk Z r h sk ss) ++ wBk Z h L (nI N) (nI u) sc nm bP bH op f1 f2 l0 l1 l2 l3 l4 l5) ++ wBk Z b Ld hcd lcd scd nmd bPd bHd opd f1d f2d l0d l1d l2d l3d l4d l5d) ++ wPa Z p kk b ti si nk br fl fa y0 y1 y2 y3 y4 y5) ++ wTk Z kk t ct kf0 sf0 vf0) ++ wTp Z t (nI tm) tb)) := by
  refine Ct.ofJ (own := RX8) (nm := "days") (lv0 := [(0, .ref (x 0))]) (by decide) rfl rfl (Nat.le_of_ble_eq_true rfl) rfl (fun X hXl C E => ?_)
  subst hXl
  refine J_aload_n C iX8_days_0 rfl rfl ?_
  refine J_get (.ref (a 0)) 0 C iX8_days_1 gf_X8_52 rfl rfl ?_
  refine J_get (.int dg) 9 C iX8_days_4 gf_X8_101 rfl rfl ?_
  exact J_iret C E iX8_days_7 ⟨rfl, rfl⟩

set_option maxRecDepth 100000 in
set_option maxHeartbeats 4000000 in
theorem c_X8_lawsCarriedOut {Z : GZ} {l : Launch} {x t b p h r a e kk L Ld : Nat → Nat} {N u tm nk : Nat} {er dg co li sk scd hcd lcd sc ct ti si fl fa nt dgt cot lit y0 y1 y2 y3 y4 y5 : Int32} {br : Bool} {ss pP pH pF pT pS pD pC tb bP bH op f1 f2 l0 l1 l2 l3 l4 l5 bPd bHd opd f1d f2d l0d l1d l2d l3d l4d l5d sf0 pPt pHt pFt pTt pSt pDt pCt : Nat → Int32} {nm nmd vf0 : Nat → Int64} {kf0 : Nat → Option Nat}  : Ct Z l yX8_lawsCarriedOut cX8_lawsCarriedOut 1 (some .int) (rmK 0) [.ref (x 0)] ((((((((wRg Z x t b p h r a e er ++ wSt Z e nt dgt cot lit pPt pHt pFt pTt pSt pDt pCt) ++ wSt Z a (nI N) dg co li pP pH pF pT pS pD pC) ++ wRk Z r h sk ss) ++ wBk Z h L (nI N) (nI u) sc nm bP bH op f1 f2 l0 l1 l2 l3 l4 l5) ++ wBk Z b Ld hcd lcd scd nmd bPd bHd opd f1d f2d l0d l1d l2d l3d l4d l5d) ++ wPa Z p kk b ti si nk br fl fa y0 y1 y2 y3 y4 y5) ++ wTk Z kk t ct kf0 sf0 vf0) ++ wTp Z t (nI tm) tb) (fun v w => v = some (.int co) ∧ w = ((((((((wRg Z x t b p h r a e er ++ wSt Z e nt dgt cot lit pPt pHt pFt pTt pSt pDt pCt) ++ wSt Z a (nI N) dg co li pP pH pF pT pS pD pC) ++ wRk Z r h sk ss) ++ wBk Z h L (nI N) (nI u) sc nm bP bH op f1 f2 l0 l1 l2 l3 l4 l5) ++ wBk Z b Ld hcd lcd scd nmd bPd bHd opd f1d f2d l0d l1d l2d l3d l4d l5d) ++ wPa Z p kk b ti si nk br fl fa y0 y1 y2 y3 y4 y5) ++ wTk Z kk t ct kf0 sf0 vf0) ++ wTp Z t (nI tm) tb)) := by
  refine Ct.ofJ (own := RX8) (nm := "lawsCarriedOut") (lv0 := [(0, .ref (x 0))]) (by decide) rfl rfl (Nat.le_of_ble_eq_true rfl) rfl (fun X hXl C E => ?_)
  subst hXl
  refine J_aload_n C iX8_lawsCarriedOut_0 rfl rfl ?_
  refine J_get (.ref (a 0)) 0 C iX8_lawsCarriedOut_1 gf_X8_52 rfl rfl ?_
  refine J_get (.int co) 9 C iX8_lawsCarriedOut_4 gf_X8_104 rfl rfl ?_
  exact J_iret C E iX8_lawsCarriedOut_7 ⟨rfl, rfl⟩

set_option maxRecDepth 100000 in
set_option maxHeartbeats 4000000 in
theorem c_X8_allHoursLost {Z : GZ} {l : Launch} {x t b p h r a e kk L Ld : Nat → Nat} {N u tm nk : Nat} {er dg co li sk scd hcd lcd sc ct ti si fl fa nt dgt cot lit y0 y1 y2 y3 y4 y5 : Int32} {br : Bool} {ss pP pH pF pT pS pD pC tb bP bH op f1 f2 l0 l1 l2 l3 l4 l5 bPd bHd opd f1d f2d l0d l1d l2d l3d l4d l5d sf0 pPt pHt pFt pTt pSt pDt pCt : Nat → Int32} {nm nmd vf0 : Nat → Int64} {kf0 : Nat → Option Nat}  : Ct Z l yX8_allHoursLost cX8_allHoursLost 1 (some .int) (rmK 0) [.ref (x 0)] ((((((((wRg Z x t b p h r a e er ++ wSt Z e nt dgt cot lit pPt pHt pFt pTt pSt pDt pCt) ++ wSt Z a (nI N) dg co li pP pH pF pT pS pD pC) ++ wRk Z r h sk ss) ++ wBk Z h L (nI N) (nI u) sc nm bP bH op f1 f2 l0 l1 l2 l3 l4 l5) ++ wBk Z b Ld hcd lcd scd nmd bPd bHd opd f1d f2d l0d l1d l2d l3d l4d l5d) ++ wPa Z p kk b ti si nk br fl fa y0 y1 y2 y3 y4 y5) ++ wTk Z kk t ct kf0 sf0 vf0) ++ wTp Z t (nI tm) tb) (fun v w => v = some (.int li) ∧ w = ((((((((wRg Z x t b p h r a e er ++ wSt Z e nt dgt cot lit pPt pHt pFt pTt pSt pDt pCt) ++ wSt Z a (nI N) dg co li pP pH pF pT pS pD pC) ++ wRk Z r h sk ss) ++ wBk Z h L (nI N) (nI u) sc nm bP bH op f1 f2 l0 l1 l2 l3 l4 l5) ++ wBk Z b Ld hcd lcd scd nmd bPd bHd opd f1d f2d l0d l1d l2d l3d l4d l5d) ++ wPa Z p kk b ti si nk br fl fa y0 y1 y2 y3 y4 y5) ++ wTk Z kk t ct kf0 sf0 vf0) ++ wTp Z t (nI tm) tb)) := by
  refine Ct.ofJ (own := RX8) (nm := "allHoursLost") (lv0 := [(0, .ref (x 0))]) (by decide) rfl rfl (Nat.le_of_ble_eq_true rfl) rfl (fun X hXl C E => ?_)
  subst hXl
  refine J_aload_n C iX8_allHoursLost_0 rfl rfl ?_
  refine J_get (.ref (a 0)) 0 C iX8_allHoursLost_1 gf_X8_52 rfl rfl ?_
  refine J_get (.int li) 9 C iX8_allHoursLost_4 gf_X8_107 rfl rfl ?_
  exact J_iret C E iX8_allHoursLost_7 ⟨rfl, rfl⟩

set_option maxRecDepth 100000 in
set_option maxHeartbeats 4000000 in
theorem c_X8_checkHouse {Z : GZ} {l : Launch} (hl : l.stackTraces = false) {x t b p h r a e kk L Ld : Nat → Nat} {N u tm nk : Nat} {er dg co li sk scd hcd lcd sc ct ti si fl fa nt dgt cot lit y0 y1 y2 y3 y4 y5 : Int32} {br : Bool} {ss pP pH pF pT pS pD pC tb bP bH op f1 f2 l0 l1 l2 l3 l4 l5 bPd bHd opd f1d f2d l0d l1d l2d l3d l4d l5d sf0 pPt pHt pFt pTt pSt pDt pCt : Nat → Int32} {nm nmd vf0 : Nat → Int64} {kf0 : Nat → Option Nat}  {q : Int32} : Cq Z l yX8_checkHouse cX8_checkHouse 2 none (rmM 6 1 6) [.ref (x 0), .int q] ((((((((wRg Z x t b p h r a e er ++ wSt Z e nt dgt cot lit pPt pHt pFt pTt pSt pDt pCt) ++ wSt Z a (nI N) dg co li pP pH pF pT pS pD pC) ++ wRk Z r h sk ss) ++ wBk Z h L (nI N) (nI u) sc nm bP bH op f1 f2 l0 l1 l2 l3 l4 l5) ++ wBk Z b Ld hcd lcd scd nmd bPd bHd opd f1d f2d l0d l1d l2d l3d l4d l5d) ++ wPa Z p kk b ti si nk br fl fa y0 y1 y2 y3 y4 y5) ++ wTk Z kk t ct kf0 sf0 vf0) ++ wTp Z t (nI tm) tb) (fun v w => v = none ∧ w = ((((((((wRg Z x t b p h r a e er ++ wSt Z e nt dgt cot lit pPt pHt pFt pTt pSt pDt pCt) ++ wSt Z a (nI N) dg co li pP pH pF pT pS pD pC) ++ wRk Z r h sk ss) ++ wBk Z h L (nI N) (nI u) sc nm bP bH op f1 f2 l0 l1 l2 l3 l4 l5) ++ wBk Z b Ld hcd lcd scd nmd bPd bHd opd f1d f2d l0d l1d l2d l3d l4d l5d) ++ wPa Z p kk b ti si nk br fl fa y0 y1 y2 y3 y4 y5) ++ wTk Z kk t ct kf0 sf0 vf0) ++ wTp Z t (nI tm) tb) ∧ hasB (nI N) q = true) (fun E => E = "java/lang/IndexOutOfBoundsException" ∧ ¬ hasB (nI N) q = true) := by
  refine Cq.ofJ (own := RX8) (nm := "checkHouse") (lv0 := [(0, .ref (x 0)), (1, .int q)]) (by decide) rfl rfl (Nat.le_of_ble_eq_true rfl) rfl (fun X hXl C E hT => ?_)
  subst hXl
  refine J_aload_n C iX8_checkHouse_0 rfl rfl ?_
  refine J_get (.ref (a 0)) 0 C iX8_checkHouse_1 gf_X8_52 rfl rfl ?_
  refine J_iload_n C iX8_checkHouse_4 rfl rfl ?_
  refine J_cVb (As := [.int q]) (st := []) (rc2 := (rmM 6 1 6).cells) (rs2 := (rmM 6 1 6).slots) C iX8_checkHouse_5 lm_X8_225 yc_X5_has yv_X5_has c_X5_has (q0 := 0) rfl rfl rfl (wRg Z x t b p h r a e er ++ wSt Z e nt dgt cot lit pPt pHt pFt pTt pSt pDt pCt) (((((wRk Z r h sk ss ++ wBk Z h L (nI N) (nI u) sc nm bP bH op f1 f2 l0 l1 l2 l3 l4 l5) ++ wBk Z b Ld hcd lcd scd nmd bPd bHd opd f1d f2d l0d l1d l2d l3d l4d l5d) ++ wPa Z p kk b ti si nk br fl fa y0 y1 y2 y3 y4 y5) ++ wTk Z kk t ct kf0 sf0 vf0) ++ wTp Z t (nI tm) tb) rfl rfl ⟨by decide, by decide⟩ (Nat.le_of_ble_eq_true rfl) rfl rfl ?_
  rintro _ _ ⟨rfl, rfl⟩
  refine J_st (.int (b2i (hasB (nI N) q)) :: []) rfl ?_
  refine J_ws ((((((((wRg Z x t b p h r a e er ++ wSt Z e nt dgt cot lit pPt pHt pFt pTt pSt pDt pCt) ++ wSt Z a (nI N) dg co li pP pH pF pT pS pD pC) ++ wRk Z r h sk ss) ++ wBk Z h L (nI N) (nI u) sc nm bP bH op f1 f2 l0 l1 l2 l3 l4 l5) ++ wBk Z b Ld hcd lcd scd nmd bPd bHd opd f1d f2d l0d l1d l2d l3d l4d l5d) ++ wPa Z p kk b ti si nk br fl fa y0 y1 y2 y3 y4 y5) ++ wTk Z kk t ct kf0 sf0 vf0) ++ wTp Z t (nI tm) tb) rfl ?_
  refine J_ifneb 21 C iX8_checkHouse_8 rfl (fun h8 => ?_) (fun h8 => ?_)
  · exact J_x2m (J_vret C E iX8_checkHouse_21 ⟨rfl, rfl, h8⟩)
  · exact J_throw (text := "there is no such house") C hl E hT iX8_checkHouse_11 iX8_checkHouse_14 iX8_checkHouse_15 iX8_checkHouse_17 iX8_checkHouse_20 (tsg_in (i := 443) (by decide +kernel) rfl) (tsg_in (i := 62) (by decide +kernel) rfl) (by decide) hat_233 (by decide) ⟨by decide, by decide⟩ (by decide) (by decide) ⟨rfl, by rw [h8]; exact Bool.false_ne_true⟩ rfl

set_option maxRecDepth 100000 in
set_option maxHeartbeats 4000000 in
theorem c_X8_checkHour {Z : GZ} {l : Launch} (hl : l.stackTraces = false) {q : Int32}  : Cq Z l yX8_checkHour cX8_checkHour 1 none (rmM 6 1 6) [.int q] [] (fun v w => v = none ∧ w = [] ∧ ¬ (q < 0 ∨ 24 ≤ q)) (fun E => E = "java/lang/IndexOutOfBoundsException" ∧ (q < 0 ∨ 24 ≤ q)) := by
  refine Cq.ofJ (own := RX8) (nm := "checkHour") (lv0 := [(0, .int q)]) (by decide) rfl rfl (Nat.le_of_ble_eq_true rfl) rfl (fun X hXl C E hT => ?_)
  subst hXl
  refine J_iload_n C iX8_checkHour_0 rfl rfl ?_
  refine J_iflt 10 C iX8_checkHour_1 rfl (fun h1 => ?_) (fun h1 => ?_)
  · exact J_throw (text := "there is no such hour") C hl E hT iX8_checkHour_10 iX8_checkHour_13 iX8_checkHour_14 iX8_checkHour_16 iX8_checkHour_19 (tsg_in (i := 443) (by decide +kernel) rfl) (tsg_in (i := 62) (by decide +kernel) rfl) (by decide) hat_233 (by decide) ⟨by decide, by decide⟩ (by decide) (by decide) ⟨rfl, Or.inl h1⟩ rfl
  · refine J_iload_n C iX8_checkHour_4 rfl rfl ?_
    refine J_bipush 24 C iX8_checkHour_5 rfl ?_
    refine J_icmplt 20 C iX8_checkHour_7 rfl (fun h7 => ?_) (fun h7 => ?_)
    · exact J_x2m (J_vret C E iX8_checkHour_20 ⟨rfl, rfl, not_or.mpr ⟨h1, (Int32.not_le.mpr h7)⟩⟩)
    · exact J_throw (text := "there is no such hour") C hl E hT iX8_checkHour_10 iX8_checkHour_13 iX8_checkHour_14 iX8_checkHour_16 iX8_checkHour_19 (tsg_in (i := 443) (by decide +kernel) rfl) (tsg_in (i := 62) (by decide +kernel) rfl) (by decide) hat_233 (by decide) ⟨by decide, by decide⟩ (by decide) (by decide) ⟨rfl, Or.inr (Int32.not_lt.mp h7)⟩ rfl

set_option maxRecDepth 100000 in
set_option maxHeartbeats 4000000 in
theorem c_X8_checkDays {Z : GZ} {l : Launch} (hl : l.stackTraces = false) {q : Int32}  : Cq Z l yX8_checkDays cX8_checkDays 1 none (rmM 6 1 6) [.int q] [] (fun v w => v = none ∧ w = [] ∧ ¬ (q < 1 ∨ 30 < q)) (fun E => E = "java/lang/IllegalArgumentException" ∧ (q < 1 ∨ 30 < q)) := by
  refine Cq.ofJ (own := RX8) (nm := "checkDays") (lv0 := [(0, .int q)]) (by decide) rfl rfl (Nat.le_of_ble_eq_true rfl) rfl (fun X hXl C E hT => ?_)
  subst hXl
  refine J_iload_n C iX8_checkDays_0 rfl rfl ?_
  refine J_iconst 1 C iX8_checkDays_1 rfl ?_
  refine J_icmplt 11 C iX8_checkDays_2 rfl (fun h2 => ?_) (fun h2 => ?_)
  · exact J_throw (text := "days are 1 to 30") C hl E hT iX8_checkDays_11 iX8_checkDays_14 iX8_checkDays_15 iX8_checkDays_17 iX8_checkDays_20 (tsg_in (i := 567) (by decide +kernel) rfl) (tsg_in (i := 61) (by decide +kernel) rfl) (by decide) hat_81 (by decide) ⟨by decide, by decide⟩ (by decide) (by decide) ⟨rfl, Or.inl h2⟩ rfl
  · refine J_iload_n C iX8_checkDays_5 rfl rfl ?_
    refine J_bipush 30 C iX8_checkDays_6 rfl ?_
    refine J_icmple 21 C iX8_checkDays_8 rfl (fun h8 => ?_) (fun h8 => ?_)
    · exact J_x2m (J_vret C E iX8_checkDays_21 ⟨rfl, rfl, not_or.mpr ⟨h2, (Int32.not_lt.mpr h8)⟩⟩)
    · exact J_throw (text := "days are 1 to 30") C hl E hT iX8_checkDays_11 iX8_checkDays_14 iX8_checkDays_15 iX8_checkDays_17 iX8_checkDays_20 (tsg_in (i := 567) (by decide +kernel) rfl) (tsg_in (i := 61) (by decide +kernel) rfl) (by decide) hat_81 (by decide) ⟨by decide, by decide⟩ (by decide) (by decide) ⟨rfl, Or.inr (Int32.not_le.mp h8)⟩ rfl

set_option maxRecDepth 100000 in
set_option maxHeartbeats 4000000 in
theorem c_X8_checkCurfewHours {Z : GZ} {l : Launch} (hl : l.stackTraces = false) {q : Int32}  : Cq Z l yX8_checkCurfewHours cX8_checkCurfewHours 1 none (rmM 6 1 6) [.int q] [] (fun v w => v = none ∧ w = [] ∧ ¬ (q < 1 ∨ 13 < q)) (fun E => E = "java/lang/IllegalArgumentException" ∧ (q < 1 ∨ 13 < q)) := by
  refine Cq.ofJ (own := RX8) (nm := "checkCurfewHours") (lv0 := [(0, .int q)]) (by decide) rfl rfl (Nat.le_of_ble_eq_true rfl) rfl (fun X hXl C E hT => ?_)
  subst hXl
  refine J_iload_n C iX8_checkCurfewHours_0 rfl rfl ?_
  refine J_iconst 1 C iX8_checkCurfewHours_1 rfl ?_
  refine J_icmplt 11 C iX8_checkCurfewHours_2 rfl (fun h2 => ?_) (fun h2 => ?_)
  · exact J_throw (text := "hours are 1 to 13") C hl E hT iX8_checkCurfewHours_11 iX8_checkCurfewHours_14 iX8_checkCurfewHours_15 iX8_checkCurfewHours_17 iX8_checkCurfewHours_20 (tsg_in (i := 567) (by decide +kernel) rfl) (tsg_in (i := 61) (by decide +kernel) rfl) (by decide) hat_81 (by decide) ⟨by decide, by decide⟩ (by decide) (by decide) ⟨rfl, Or.inl h2⟩ rfl
  · refine J_iload_n C iX8_checkCurfewHours_5 rfl rfl ?_
    refine J_bipush 13 C iX8_checkCurfewHours_6 rfl ?_
    refine J_icmple 21 C iX8_checkCurfewHours_8 rfl (fun h8 => ?_) (fun h8 => ?_)
    · exact J_x2m (J_vret C E iX8_checkCurfewHours_21 ⟨rfl, rfl, not_or.mpr ⟨h2, (Int32.not_lt.mpr h8)⟩⟩)
    · exact J_throw (text := "hours are 1 to 13") C hl E hT iX8_checkCurfewHours_11 iX8_checkCurfewHours_14 iX8_checkCurfewHours_15 iX8_checkCurfewHours_17 iX8_checkCurfewHours_20 (tsg_in (i := 567) (by decide +kernel) rfl) (tsg_in (i := 61) (by decide +kernel) rfl) (by decide) hat_81 (by decide) ⟨by decide, by decide⟩ (by decide) (by decide) ⟨rfl, Or.inr (Int32.not_le.mp h8)⟩ rfl

set_option maxRecDepth 100000 in
set_option maxHeartbeats 4000000 in
theorem c_X8_checkCurfew {Z : GZ} {l : Launch} (hl : l.stackTraces = false) {x t b p h r a e kk L Ld : Nat → Nat} {N u tm nk : Nat} {er dg co li sk scd hcd lcd sc ct ti si fl fa nt dgt cot lit y0 y1 y2 y3 y4 y5 : Int32} {br : Bool} {ss pP pH pF pT pS pD pC tb bP bH op f1 f2 l0 l1 l2 l3 l4 l5 bPd bHd opd f1d f2d l0d l1d l2d l3d l4d l5d sf0 pPt pHt pFt pTt pSt pDt pCt : Nat → Int32} {nm nmd vf0 : Nat → Int64} {kf0 : Nat → Option Nat} {q : Int32}  : Cq Z l yX8_checkCurfew cX8_checkCurfew 2 none (rmM 6 1 6) [.ref (x 0), .int q] ((((((((wRg Z x t b p h r a e er ++ wSt Z e nt dgt cot lit pPt pHt pFt pTt pSt pDt pCt) ++ wSt Z a (nI N) dg co li pP pH pF pT pS pD pC) ++ wRk Z r h sk ss) ++ wBk Z h L (nI N) (nI u) sc nm bP bH op f1 f2 l0 l1 l2 l3 l4 l5) ++ wBk Z b Ld hcd lcd scd nmd bPd bHd opd f1d f2d l0d l1d l2d l3d l4d l5d) ++ wPa Z p kk b ti si nk br fl fa y0 y1 y2 y3 y4 y5) ++ wTk Z kk t ct kf0 sf0 vf0) ++ wTp Z t (nI tm) tb) (fun v w => v = none ∧ w = ((((((((wRg Z x t b p h r a e er ++ wSt Z e nt dgt cot lit pPt pHt pFt pTt pSt pDt pCt) ++ wSt Z a (nI N) dg co li pP pH pF pT pS pD pC) ++ wRk Z r h sk ss) ++ wBk Z h L (nI N) (nI u) sc nm bP bH op f1 f2 l0 l1 l2 l3 l4 l5) ++ wBk Z b Ld hcd lcd scd nmd bPd bHd opd f1d f2d l0d l1d l2d l3d l4d l5d) ++ wPa Z p kk b ti si nk br fl fa y0 y1 y2 y3 y4 y5) ++ wTk Z kk t ct kf0 sf0 vf0) ++ wTp Z t (nI tm) tb) ∧ ¬ stAt (nI N) q pF (-1) = -1) (fun E => E = "java/lang/IllegalStateException" ∧ stAt (nI N) q pF (-1) = -1) := by
  refine Cq.ofJ (own := RX8) (nm := "checkCurfew") (lv0 := [(0, .ref (x 0)), (1, .int q)]) (by decide) rfl rfl (Nat.le_of_ble_eq_true rfl) rfl (fun X hXl C E hT => ?_)
  subst hXl
  refine J_aload_n C iX8_checkCurfew_0 rfl rfl ?_
  refine J_get (.ref (a 0)) 0 C iX8_checkCurfew_1 gf_X8_52 rfl rfl ?_
  refine J_iload_n C iX8_checkCurfew_4 rfl rfl ?_
  refine J_cVb (As := [.int q]) (st := []) (rc2 := (rmM 6 1 6).cells) (rs2 := (rmM 6 1 6).slots) C iX8_checkCurfew_5 lm_X8_128 yc_X5_firstLow yv_X5_firstLow c_X5_firstLow (q0 := 0) rfl rfl rfl (wRg Z x t b p h r a e er ++ wSt Z e nt dgt cot lit pPt pHt pFt pTt pSt pDt pCt) (((((wRk Z r h sk ss ++ wBk Z h L (nI N) (nI u) sc nm bP bH op f1 f2 l0 l1 l2 l3 l4 l5) ++ wBk Z b Ld hcd lcd scd nmd bPd bHd opd f1d f2d l0d l1d l2d l3d l4d l5d) ++ wPa Z p kk b ti si nk br fl fa y0 y1 y2 y3 y4 y5) ++ wTk Z kk t ct kf0 sf0 vf0) ++ wTp Z t (nI tm) tb) rfl rfl ⟨by decide, by decide⟩ (Nat.le_of_ble_eq_true rfl) rfl rfl ?_
  rintro _ _ ⟨rfl, rfl⟩
  refine J_st (.int (stAt (nI N) q pF (-1)) :: []) rfl ?_
  refine J_ws ((((((((wRg Z x t b p h r a e er ++ wSt Z e nt dgt cot lit pPt pHt pFt pTt pSt pDt pCt) ++ wSt Z a (nI N) dg co li pP pH pF pT pS pD pC) ++ wRk Z r h sk ss) ++ wBk Z h L (nI N) (nI u) sc nm bP bH op f1 f2 l0 l1 l2 l3 l4 l5) ++ wBk Z b Ld hcd lcd scd nmd bPd bHd opd f1d f2d l0d l1d l2d l3d l4d l5d) ++ wPa Z p kk b ti si nk br fl fa y0 y1 y2 y3 y4 y5) ++ wTk Z kk t ct kf0 sf0 vf0) ++ wTp Z t (nI tm) tb) rfl ?_
  refine J_iconst (-1) C iX8_checkCurfew_8 rfl ?_
  refine J_icmpne 22 C iX8_checkCurfew_9 rfl (fun h9 => ?_) (fun h9 => ?_)
  · exact J_x2m (J_vret C E iX8_checkCurfew_22 ⟨rfl, rfl, h9⟩)
  · exact J_throw (text := "its wall has no curfew") C hl E hT iX8_checkCurfew_12 iX8_checkCurfew_15 iX8_checkCurfew_16 iX8_checkCurfew_18 iX8_checkCurfew_21 (tsg_in (i := 359) (by decide +kernel) rfl) (tsg_in (i := 60) (by decide +kernel) rfl) (by decide) hat_70 (by decide) ⟨by decide, by decide⟩ (by decide) (by decide) ⟨rfl, h9⟩ rfl

set_option maxRecDepth 100000 in
set_option maxHeartbeats 4000000 in
theorem c_X8_placeOf {Z : GZ} {l : Launch} (hl : l.stackTraces = false) {x t b p h r a e kk L Ld : Nat → Nat} {N u tm nk : Nat} {er dg co li sk scd hcd lcd sc ct ti si fl fa nt dgt cot lit y0 y1 y2 y3 y4 y5 : Int32} {br : Bool} {ss pP pH pF pT pS pD pC tb bP bH op f1 f2 l0 l1 l2 l3 l4 l5 bPd bHd opd f1d f2d l0d l1d l2d l3d l4d l5d sf0 pPt pHt pFt pTt pSt pDt pCt : Nat → Int32} {nm nmd vf0 : Nat → Int64} {kf0 : Nat → Option Nat} {q : Int32}   : Cq Z l yX8_placeOf cX8_placeOf 2 (some .int) (rmM 8 1 6) [.ref (x 0), .int q] ((((((((wRg Z x t b p h r a e er ++ wSt Z e nt dgt cot lit pPt pHt pFt pTt pSt pDt pCt) ++ wSt Z a (nI N) dg co li pP pH pF pT pS pD pC) ++ wRk Z r h sk ss) ++ wBk Z h L (nI N) (nI u) sc nm bP bH op f1 f2 l0 l1 l2 l3 l4 l5) ++ wBk Z b Ld hcd lcd scd nmd bPd bHd opd f1d f2d l0d l1d l2d l3d l4d l5d) ++ wPa Z p kk b ti si nk br fl fa y0 y1 y2 y3 y4 y5) ++ wTk Z kk t ct kf0 sf0 vf0) ++ wTp Z t (nI tm) tb) (fun v w => v = some (.int (stAt (nI N) q pP (-1))) ∧ w = ((((((((wRg Z x t b p h r a e er ++ wSt Z e nt dgt cot lit pPt pHt pFt pTt pSt pDt pCt) ++ wSt Z a (nI N) dg co li pP pH pF pT pS pD pC) ++ wRk Z r h sk ss) ++ wBk Z h L (nI N) (nI u) sc nm bP bH op f1 f2 l0 l1 l2 l3 l4 l5) ++ wBk Z b Ld hcd lcd scd nmd bPd bHd opd f1d f2d l0d l1d l2d l3d l4d l5d) ++ wPa Z p kk b ti si nk br fl fa y0 y1 y2 y3 y4 y5) ++ wTk Z kk t ct kf0 sf0 vf0) ++ wTp Z t (nI tm) tb) ∧ hasB (nI N) q = true) (fun E => (E = "java/lang/IndexOutOfBoundsException" ∧ ¬ hasB (nI N) q = true)) := by
  refine Cq.ofJ (own := RX8) (nm := "placeOf") (lv0 := [(0, .ref (x 0)), (1, .int q)]) (by decide) rfl rfl (Nat.le_of_ble_eq_true rfl) rfl (fun X hXl C E hT => ?_)
  subst hXl
  refine J_aload_n C iX8_placeOf_0 rfl rfl ?_
  refine J_iload_n C iX8_placeOf_1 rfl rfl ?_
  refine J_xV (As := [.int q]) (st := []) (w0 := ((((((((wRg Z x t b p h r a e er ++ wSt Z e nt dgt cot lit pPt pHt pFt pTt pSt pDt pCt) ++ wSt Z a (nI N) dg co li pP pH pF pT pS pD pC) ++ wRk Z r h sk ss) ++ wBk Z h L (nI N) (nI u) sc nm bP bH op f1 f2 l0 l1 l2 l3 l4 l5) ++ wBk Z b Ld hcd lcd scd nmd bPd bHd opd f1d f2d l0d l1d l2d l3d l4d l5d) ++ wPa Z p kk b ti si nk br fl fa y0 y1 y2 y3 y4 y5) ++ wTk Z kk t ct kf0 sf0 vf0) ++ wTp Z t (nI tm) tb)) (rc2 := 0) (rs2 := 0) C E hT iX8_placeOf_2 lm_X8_119 yc_X8_checkHouse yv_X8_checkHouse (c_X8_checkHouse hl (q := q)) (q0 := 0) rfl rfl rfl [] [] (by simp only [List.append_assoc, List.append_nil, List.nil_append]) rfl (fun E h => ⟨h.1, h.2⟩) rfl ⟨by decide, by decide⟩ (Nat.le_of_ble_eq_true rfl) rfl rfl ?_
  rintro _ _ ⟨rfl, rfl, hk0⟩
  refine J_st ([]) rfl ?_
  refine J_ws ((((((((wRg Z x t b p h r a e er ++ wSt Z e nt dgt cot lit pPt pHt pFt pTt pSt pDt pCt) ++ wSt Z a (nI N) dg co li pP pH pF pT pS pD pC) ++ wRk Z r h sk ss) ++ wBk Z h L (nI N) (nI u) sc nm bP bH op f1 f2 l0 l1 l2 l3 l4 l5) ++ wBk Z b Ld hcd lcd scd nmd bPd bHd opd f1d f2d l0d l1d l2d l3d l4d l5d) ++ wPa Z p kk b ti si nk br fl fa y0 y1 y2 y3 y4 y5) ++ wTk Z kk t ct kf0 sf0 vf0) ++ wTp Z t (nI tm) tb) (by simp only [List.append_assoc, List.append_nil, List.nil_append]) ?_
  refine J_aload_n C iX8_placeOf_5 rfl rfl ?_
  refine J_get (.ref (a 0)) 0 C iX8_placeOf_6 gf_X8_52 rfl rfl ?_
  refine J_iload_n C iX8_placeOf_9 rfl rfl ?_
  refine J_cVb (As := [.int q]) (st := []) (rc2 := 0) (rs2 := 0) C iX8_placeOf_10 lm_X8_122 yc_X5_place yv_X5_place c_X5_place (q0 := 0) rfl rfl rfl (wRg Z x t b p h r a e er ++ wSt Z e nt dgt cot lit pPt pHt pFt pTt pSt pDt pCt) (((((wRk Z r h sk ss ++ wBk Z h L (nI N) (nI u) sc nm bP bH op f1 f2 l0 l1 l2 l3 l4 l5) ++ wBk Z b Ld hcd lcd scd nmd bPd bHd opd f1d f2d l0d l1d l2d l3d l4d l5d) ++ wPa Z p kk b ti si nk br fl fa y0 y1 y2 y3 y4 y5) ++ wTk Z kk t ct kf0 sf0 vf0) ++ wTp Z t (nI tm) tb) rfl rfl ⟨by decide, by decide⟩ (Nat.le_of_ble_eq_true rfl) rfl rfl ?_
  rintro _ _ ⟨rfl, rfl⟩
  refine J_st (.int (stAt (nI N) q pP (-1)) :: []) rfl ?_
  refine J_ws ((((((((wRg Z x t b p h r a e er ++ wSt Z e nt dgt cot lit pPt pHt pFt pTt pSt pDt pCt) ++ wSt Z a (nI N) dg co li pP pH pF pT pS pD pC) ++ wRk Z r h sk ss) ++ wBk Z h L (nI N) (nI u) sc nm bP bH op f1 f2 l0 l1 l2 l3 l4 l5) ++ wBk Z b Ld hcd lcd scd nmd bPd bHd opd f1d f2d l0d l1d l2d l3d l4d l5d) ++ wPa Z p kk b ti si nk br fl fa y0 y1 y2 y3 y4 y5) ++ wTk Z kk t ct kf0 sf0 vf0) ++ wTp Z t (nI tm) tb) rfl ?_
  exact J_x2m (J_iret C E iX8_placeOf_13 ⟨rfl, rfl, hk0⟩)

set_option maxRecDepth 100000 in
set_option maxHeartbeats 4000000 in
theorem c_X8_heightOf {Z : GZ} {l : Launch} (hl : l.stackTraces = false) {x t b p h r a e kk L Ld : Nat → Nat} {N u tm nk : Nat} {er dg co li sk scd hcd lcd sc ct ti si fl fa nt dgt cot lit y0 y1 y2 y3 y4 y5 : Int32} {br : Bool} {ss pP pH pF pT pS pD pC tb bP bH op f1 f2 l0 l1 l2 l3 l4 l5 bPd bHd opd f1d f2d l0d l1d l2d l3d l4d l5d sf0 pPt pHt pFt pTt pSt pDt pCt : Nat → Int32} {nm nmd vf0 : Nat → Int64} {kf0 : Nat → Option Nat} {q : Int32}   : Cq Z l yX8_heightOf cX8_heightOf 2 (some .int) (rmM 8 1 6) [.ref (x 0), .int q] ((((((((wRg Z x t b p h r a e er ++ wSt Z e nt dgt cot lit pPt pHt pFt pTt pSt pDt pCt) ++ wSt Z a (nI N) dg co li pP pH pF pT pS pD pC) ++ wRk Z r h sk ss) ++ wBk Z h L (nI N) (nI u) sc nm bP bH op f1 f2 l0 l1 l2 l3 l4 l5) ++ wBk Z b Ld hcd lcd scd nmd bPd bHd opd f1d f2d l0d l1d l2d l3d l4d l5d) ++ wPa Z p kk b ti si nk br fl fa y0 y1 y2 y3 y4 y5) ++ wTk Z kk t ct kf0 sf0 vf0) ++ wTp Z t (nI tm) tb) (fun v w => v = some (.int (stAt (nI N) q pH 0)) ∧ w = ((((((((wRg Z x t b p h r a e er ++ wSt Z e nt dgt cot lit pPt pHt pFt pTt pSt pDt pCt) ++ wSt Z a (nI N) dg co li pP pH pF pT pS pD pC) ++ wRk Z r h sk ss) ++ wBk Z h L (nI N) (nI u) sc nm bP bH op f1 f2 l0 l1 l2 l3 l4 l5) ++ wBk Z b Ld hcd lcd scd nmd bPd bHd opd f1d f2d l0d l1d l2d l3d l4d l5d) ++ wPa Z p kk b ti si nk br fl fa y0 y1 y2 y3 y4 y5) ++ wTk Z kk t ct kf0 sf0 vf0) ++ wTp Z t (nI tm) tb) ∧ hasB (nI N) q = true) (fun E => (E = "java/lang/IndexOutOfBoundsException" ∧ ¬ hasB (nI N) q = true)) := by
  refine Cq.ofJ (own := RX8) (nm := "heightOf") (lv0 := [(0, .ref (x 0)), (1, .int q)]) (by decide) rfl rfl (Nat.le_of_ble_eq_true rfl) rfl (fun X hXl C E hT => ?_)
  subst hXl
  refine J_aload_n C iX8_heightOf_0 rfl rfl ?_
  refine J_iload_n C iX8_heightOf_1 rfl rfl ?_
  refine J_xV (As := [.int q]) (st := []) (w0 := ((((((((wRg Z x t b p h r a e er ++ wSt Z e nt dgt cot lit pPt pHt pFt pTt pSt pDt pCt) ++ wSt Z a (nI N) dg co li pP pH pF pT pS pD pC) ++ wRk Z r h sk ss) ++ wBk Z h L (nI N) (nI u) sc nm bP bH op f1 f2 l0 l1 l2 l3 l4 l5) ++ wBk Z b Ld hcd lcd scd nmd bPd bHd opd f1d f2d l0d l1d l2d l3d l4d l5d) ++ wPa Z p kk b ti si nk br fl fa y0 y1 y2 y3 y4 y5) ++ wTk Z kk t ct kf0 sf0 vf0) ++ wTp Z t (nI tm) tb)) (rc2 := 0) (rs2 := 0) C E hT iX8_heightOf_2 lm_X8_119 yc_X8_checkHouse yv_X8_checkHouse (c_X8_checkHouse hl (q := q)) (q0 := 0) rfl rfl rfl [] [] (by simp only [List.append_assoc, List.append_nil, List.nil_append]) rfl (fun E h => ⟨h.1, h.2⟩) rfl ⟨by decide, by decide⟩ (Nat.le_of_ble_eq_true rfl) rfl rfl ?_
  rintro _ _ ⟨rfl, rfl, hk0⟩
  refine J_st ([]) rfl ?_
  refine J_ws ((((((((wRg Z x t b p h r a e er ++ wSt Z e nt dgt cot lit pPt pHt pFt pTt pSt pDt pCt) ++ wSt Z a (nI N) dg co li pP pH pF pT pS pD pC) ++ wRk Z r h sk ss) ++ wBk Z h L (nI N) (nI u) sc nm bP bH op f1 f2 l0 l1 l2 l3 l4 l5) ++ wBk Z b Ld hcd lcd scd nmd bPd bHd opd f1d f2d l0d l1d l2d l3d l4d l5d) ++ wPa Z p kk b ti si nk br fl fa y0 y1 y2 y3 y4 y5) ++ wTk Z kk t ct kf0 sf0 vf0) ++ wTp Z t (nI tm) tb) (by simp only [List.append_assoc, List.append_nil, List.nil_append]) ?_
  refine J_aload_n C iX8_heightOf_5 rfl rfl ?_
  refine J_get (.ref (a 0)) 0 C iX8_heightOf_6 gf_X8_52 rfl rfl ?_
  refine J_iload_n C iX8_heightOf_9 rfl rfl ?_
  refine J_cVb (As := [.int q]) (st := []) (rc2 := 0) (rs2 := 0) C iX8_heightOf_10 lm_X8_125 yc_X5_height yv_X5_height c_X5_height (q0 := 0) rfl rfl rfl (wRg Z x t b p h r a e er ++ wSt Z e nt dgt cot lit pPt pHt pFt pTt pSt pDt pCt) (((((wRk Z r h sk ss ++ wBk Z h L (nI N) (nI u) sc nm bP bH op f1 f2 l0 l1 l2 l3 l4 l5) ++ wBk Z b Ld hcd lcd scd nmd bPd bHd opd f1d f2d l0d l1d l2d l3d l4d l5d) ++ wPa Z p kk b ti si nk br fl fa y0 y1 y2 y3 y4 y5) ++ wTk Z kk t ct kf0 sf0 vf0) ++ wTp Z t (nI tm) tb) rfl rfl ⟨by decide, by decide⟩ (Nat.le_of_ble_eq_true rfl) rfl rfl ?_
  rintro _ _ ⟨rfl, rfl⟩
  refine J_st (.int (stAt (nI N) q pH 0) :: []) rfl ?_
  refine J_ws ((((((((wRg Z x t b p h r a e er ++ wSt Z e nt dgt cot lit pPt pHt pFt pTt pSt pDt pCt) ++ wSt Z a (nI N) dg co li pP pH pF pT pS pD pC) ++ wRk Z r h sk ss) ++ wBk Z h L (nI N) (nI u) sc nm bP bH op f1 f2 l0 l1 l2 l3 l4 l5) ++ wBk Z b Ld hcd lcd scd nmd bPd bHd opd f1d f2d l0d l1d l2d l3d l4d l5d) ++ wPa Z p kk b ti si nk br fl fa y0 y1 y2 y3 y4 y5) ++ wTk Z kk t ct kf0 sf0 vf0) ++ wTp Z t (nI tm) tb) rfl ?_
  exact J_x2m (J_iret C E iX8_heightOf_13 ⟨rfl, rfl, hk0⟩)

set_option maxRecDepth 100000 in
set_option maxHeartbeats 4000000 in
theorem c_X8_hoursLost {Z : GZ} {l : Launch} (hl : l.stackTraces = false) {x t b p h r a e kk L Ld : Nat → Nat} {N u tm nk : Nat} {er dg co li sk scd hcd lcd sc ct ti si fl fa nt dgt cot lit y0 y1 y2 y3 y4 y5 : Int32} {br : Bool} {ss pP pH pF pT pS pD pC tb bP bH op f1 f2 l0 l1 l2 l3 l4 l5 bPd bHd opd f1d f2d l0d l1d l2d l3d l4d l5d sf0 pPt pHt pFt pTt pSt pDt pCt : Nat → Int32} {nm nmd vf0 : Nat → Int64} {kf0 : Nat → Option Nat} {q : Int32}   : Cq Z l yX8_hoursLost cX8_hoursLost 2 (some .int) (rmM 8 1 6) [.ref (x 0), .int q] ((((((((wRg Z x t b p h r a e er ++ wSt Z e nt dgt cot lit pPt pHt pFt pTt pSt pDt pCt) ++ wSt Z a (nI N) dg co li pP pH pF pT pS pD pC) ++ wRk Z r h sk ss) ++ wBk Z h L (nI N) (nI u) sc nm bP bH op f1 f2 l0 l1 l2 l3 l4 l5) ++ wBk Z b Ld hcd lcd scd nmd bPd bHd opd f1d f2d l0d l1d l2d l3d l4d l5d) ++ wPa Z p kk b ti si nk br fl fa y0 y1 y2 y3 y4 y5) ++ wTk Z kk t ct kf0 sf0 vf0) ++ wTp Z t (nI tm) tb) (fun v w => v = some (.int (bitC (stAt (nI N) q pD 0))) ∧ w = ((((((((wRg Z x t b p h r a e er ++ wSt Z e nt dgt cot lit pPt pHt pFt pTt pSt pDt pCt) ++ wSt Z a (nI N) dg co li pP pH pF pT pS pD pC) ++ wRk Z r h sk ss) ++ wBk Z h L (nI N) (nI u) sc nm bP bH op f1 f2 l0 l1 l2 l3 l4 l5) ++ wBk Z b Ld hcd lcd scd nmd bPd bHd opd f1d f2d l0d l1d l2d l3d l4d l5d) ++ wPa Z p kk b ti si nk br fl fa y0 y1 y2 y3 y4 y5) ++ wTk Z kk t ct kf0 sf0 vf0) ++ wTp Z t (nI tm) tb) ∧ hasB (nI N) q = true) (fun E => (E = "java/lang/IndexOutOfBoundsException" ∧ ¬ hasB (nI N) q = true)) := by
  refine Cq.ofJ (own := RX8) (nm := "hoursLost") (lv0 := [(0, .ref (x 0)), (1, .int q)]) (by decide) rfl rfl (Nat.le_of_ble_eq_true rfl) rfl (fun X hXl C E hT => ?_)
  subst hXl
  refine J_aload_n C iX8_hoursLost_0 rfl rfl ?_
  refine J_iload_n C iX8_hoursLost_1 rfl rfl ?_
  refine J_xV (As := [.int q]) (st := []) (w0 := ((((((((wRg Z x t b p h r a e er ++ wSt Z e nt dgt cot lit pPt pHt pFt pTt pSt pDt pCt) ++ wSt Z a (nI N) dg co li pP pH pF pT pS pD pC) ++ wRk Z r h sk ss) ++ wBk Z h L (nI N) (nI u) sc nm bP bH op f1 f2 l0 l1 l2 l3 l4 l5) ++ wBk Z b Ld hcd lcd scd nmd bPd bHd opd f1d f2d l0d l1d l2d l3d l4d l5d) ++ wPa Z p kk b ti si nk br fl fa y0 y1 y2 y3 y4 y5) ++ wTk Z kk t ct kf0 sf0 vf0) ++ wTp Z t (nI tm) tb)) (rc2 := 0) (rs2 := 0) C E hT iX8_hoursLost_2 lm_X8_119 yc_X8_checkHouse yv_X8_checkHouse (c_X8_checkHouse hl (q := q)) (q0 := 0) rfl rfl rfl [] [] (by simp only [List.append_assoc, List.append_nil, List.nil_append]) rfl (fun E h => ⟨h.1, h.2⟩) rfl ⟨by decide, by decide⟩ (Nat.le_of_ble_eq_true rfl) rfl rfl ?_
  rintro _ _ ⟨rfl, rfl, hk0⟩
  refine J_st ([]) rfl ?_
  refine J_ws ((((((((wRg Z x t b p h r a e er ++ wSt Z e nt dgt cot lit pPt pHt pFt pTt pSt pDt pCt) ++ wSt Z a (nI N) dg co li pP pH pF pT pS pD pC) ++ wRk Z r h sk ss) ++ wBk Z h L (nI N) (nI u) sc nm bP bH op f1 f2 l0 l1 l2 l3 l4 l5) ++ wBk Z b Ld hcd lcd scd nmd bPd bHd opd f1d f2d l0d l1d l2d l3d l4d l5d) ++ wPa Z p kk b ti si nk br fl fa y0 y1 y2 y3 y4 y5) ++ wTk Z kk t ct kf0 sf0 vf0) ++ wTp Z t (nI tm) tb) (by simp only [List.append_assoc, List.append_nil, List.nil_append]) ?_
  refine J_aload_n C iX8_hoursLost_5 rfl rfl ?_
  refine J_get (.ref (a 0)) 0 C iX8_hoursLost_6 gf_X8_52 rfl rfl ?_
  refine J_iload_n C iX8_hoursLost_9 rfl rfl ?_
  refine J_cVb (As := [.int q]) (st := []) (rc2 := 0) (rs2 := 0) C iX8_hoursLost_10 lm_X8_110 yc_X5_lost yv_X5_lost c_X5_lost (q0 := 0) rfl rfl rfl (wRg Z x t b p h r a e er ++ wSt Z e nt dgt cot lit pPt pHt pFt pTt pSt pDt pCt) (((((wRk Z r h sk ss ++ wBk Z h L (nI N) (nI u) sc nm bP bH op f1 f2 l0 l1 l2 l3 l4 l5) ++ wBk Z b Ld hcd lcd scd nmd bPd bHd opd f1d f2d l0d l1d l2d l3d l4d l5d) ++ wPa Z p kk b ti si nk br fl fa y0 y1 y2 y3 y4 y5) ++ wTk Z kk t ct kf0 sf0 vf0) ++ wTp Z t (nI tm) tb) rfl rfl ⟨by decide, by decide⟩ (Nat.le_of_ble_eq_true rfl) rfl rfl ?_
  rintro _ _ ⟨rfl, rfl⟩
  refine J_st (.int (bitC (stAt (nI N) q pD 0)) :: []) rfl ?_
  refine J_ws ((((((((wRg Z x t b p h r a e er ++ wSt Z e nt dgt cot lit pPt pHt pFt pTt pSt pDt pCt) ++ wSt Z a (nI N) dg co li pP pH pF pT pS pD pC) ++ wRk Z r h sk ss) ++ wBk Z h L (nI N) (nI u) sc nm bP bH op f1 f2 l0 l1 l2 l3 l4 l5) ++ wBk Z b Ld hcd lcd scd nmd bPd bHd opd f1d f2d l0d l1d l2d l3d l4d l5d) ++ wPa Z p kk b ti si nk br fl fa y0 y1 y2 y3 y4 y5) ++ wTk Z kk t ct kf0 sf0 vf0) ++ wTp Z t (nI tm) tb) rfl ?_
  exact J_x2m (J_iret C E iX8_hoursLost_13 ⟨rfl, rfl, hk0⟩)

set_option maxRecDepth 100000 in
set_option maxHeartbeats 4000000 in
theorem c_X8_castBy {Z : GZ} {l : Launch} (hl : l.stackTraces = false) {x t b p h r a e kk L Ld : Nat → Nat} {N u tm nk : Nat} {er dg co li sk scd hcd lcd sc ct ti si fl fa nt dgt cot lit y0 y1 y2 y3 y4 y5 : Int32} {br : Bool} {ss pP pH pF pT pS pD pC tb bP bH op f1 f2 l0 l1 l2 l3 l4 l5 bPd bHd opd f1d f2d l0d l1d l2d l3d l4d l5d sf0 pPt pHt pFt pTt pSt pDt pCt : Nat → Int32} {nm nmd vf0 : Nat → Int64} {kf0 : Nat → Option Nat} {q : Int32}   : Cq Z l yX8_castBy cX8_castBy 2 (some .int) (rmM 8 1 6) [.ref (x 0), .int q] ((((((((wRg Z x t b p h r a e er ++ wSt Z e nt dgt cot lit pPt pHt pFt pTt pSt pDt pCt) ++ wSt Z a (nI N) dg co li pP pH pF pT pS pD pC) ++ wRk Z r h sk ss) ++ wBk Z h L (nI N) (nI u) sc nm bP bH op f1 f2 l0 l1 l2 l3 l4 l5) ++ wBk Z b Ld hcd lcd scd nmd bPd bHd opd f1d f2d l0d l1d l2d l3d l4d l5d) ++ wPa Z p kk b ti si nk br fl fa y0 y1 y2 y3 y4 y5) ++ wTk Z kk t ct kf0 sf0 vf0) ++ wTp Z t (nI tm) tb) (fun v w => v = some (.int (stAt (nI N) q pC 0)) ∧ w = ((((((((wRg Z x t b p h r a e er ++ wSt Z e nt dgt cot lit pPt pHt pFt pTt pSt pDt pCt) ++ wSt Z a (nI N) dg co li pP pH pF pT pS pD pC) ++ wRk Z r h sk ss) ++ wBk Z h L (nI N) (nI u) sc nm bP bH op f1 f2 l0 l1 l2 l3 l4 l5) ++ wBk Z b Ld hcd lcd scd nmd bPd bHd opd f1d f2d l0d l1d l2d l3d l4d l5d) ++ wPa Z p kk b ti si nk br fl fa y0 y1 y2 y3 y4 y5) ++ wTk Z kk t ct kf0 sf0 vf0) ++ wTp Z t (nI tm) tb) ∧ hasB (nI N) q = true) (fun E => (E = "java/lang/IndexOutOfBoundsException" ∧ ¬ hasB (nI N) q = true)) := by
  refine Cq.ofJ (own := RX8) (nm := "castBy") (lv0 := [(0, .ref (x 0)), (1, .int q)]) (by decide) rfl rfl (Nat.le_of_ble_eq_true rfl) rfl (fun X hXl C E hT => ?_)
  subst hXl
  refine J_aload_n C iX8_castBy_0 rfl rfl ?_
  refine J_iload_n C iX8_castBy_1 rfl rfl ?_
  refine J_xV (As := [.int q]) (st := []) (w0 := ((((((((wRg Z x t b p h r a e er ++ wSt Z e nt dgt cot lit pPt pHt pFt pTt pSt pDt pCt) ++ wSt Z a (nI N) dg co li pP pH pF pT pS pD pC) ++ wRk Z r h sk ss) ++ wBk Z h L (nI N) (nI u) sc nm bP bH op f1 f2 l0 l1 l2 l3 l4 l5) ++ wBk Z b Ld hcd lcd scd nmd bPd bHd opd f1d f2d l0d l1d l2d l3d l4d l5d) ++ wPa Z p kk b ti si nk br fl fa y0 y1 y2 y3 y4 y5) ++ wTk Z kk t ct kf0 sf0 vf0) ++ wTp Z t (nI tm) tb)) (rc2 := 0) (rs2 := 0) C E hT iX8_castBy_2 lm_X8_119 yc_X8_checkHouse yv_X8_checkHouse (c_X8_checkHouse hl (q := q)) (q0 := 0) rfl rfl rfl [] [] (by simp only [List.append_assoc, List.append_nil, List.nil_append]) rfl (fun E h => ⟨h.1, h.2⟩) rfl ⟨by decide, by decide⟩ (Nat.le_of_ble_eq_true rfl) rfl rfl ?_
  rintro _ _ ⟨rfl, rfl, hk0⟩
  refine J_st ([]) rfl ?_
  refine J_ws ((((((((wRg Z x t b p h r a e er ++ wSt Z e nt dgt cot lit pPt pHt pFt pTt pSt pDt pCt) ++ wSt Z a (nI N) dg co li pP pH pF pT pS pD pC) ++ wRk Z r h sk ss) ++ wBk Z h L (nI N) (nI u) sc nm bP bH op f1 f2 l0 l1 l2 l3 l4 l5) ++ wBk Z b Ld hcd lcd scd nmd bPd bHd opd f1d f2d l0d l1d l2d l3d l4d l5d) ++ wPa Z p kk b ti si nk br fl fa y0 y1 y2 y3 y4 y5) ++ wTk Z kk t ct kf0 sf0 vf0) ++ wTp Z t (nI tm) tb) (by simp only [List.append_assoc, List.append_nil, List.nil_append]) ?_
  refine J_aload_n C iX8_castBy_5 rfl rfl ?_
  refine J_get (.ref (a 0)) 0 C iX8_castBy_6 gf_X8_52 rfl rfl ?_
  refine J_iload_n C iX8_castBy_9 rfl rfl ?_
  refine J_cVb (As := [.int q]) (st := []) (rc2 := 0) (rs2 := 0) C iX8_castBy_10 lm_X8_116 yc_X5_cast yv_X5_cast c_X5_cast (q0 := 0) rfl rfl rfl (wRg Z x t b p h r a e er ++ wSt Z e nt dgt cot lit pPt pHt pFt pTt pSt pDt pCt) (((((wRk Z r h sk ss ++ wBk Z h L (nI N) (nI u) sc nm bP bH op f1 f2 l0 l1 l2 l3 l4 l5) ++ wBk Z b Ld hcd lcd scd nmd bPd bHd opd f1d f2d l0d l1d l2d l3d l4d l5d) ++ wPa Z p kk b ti si nk br fl fa y0 y1 y2 y3 y4 y5) ++ wTk Z kk t ct kf0 sf0 vf0) ++ wTp Z t (nI tm) tb) rfl rfl ⟨by decide, by decide⟩ (Nat.le_of_ble_eq_true rfl) rfl rfl ?_
  rintro _ _ ⟨rfl, rfl⟩
  refine J_st (.int (stAt (nI N) q pC 0) :: []) rfl ?_
  refine J_ws ((((((((wRg Z x t b p h r a e er ++ wSt Z e nt dgt cot lit pPt pHt pFt pTt pSt pDt pCt) ++ wSt Z a (nI N) dg co li pP pH pF pT pS pD pC) ++ wRk Z r h sk ss) ++ wBk Z h L (nI N) (nI u) sc nm bP bH op f1 f2 l0 l1 l2 l3 l4 l5) ++ wBk Z b Ld hcd lcd scd nmd bPd bHd opd f1d f2d l0d l1d l2d l3d l4d l5d) ++ wPa Z p kk b ti si nk br fl fa y0 y1 y2 y3 y4 y5) ++ wTk Z kk t ct kf0 sf0 vf0) ++ wTp Z t (nI tm) tb) rfl ?_
  exact J_x2m (J_iret C E iX8_castBy_13 ⟨rfl, rfl, hk0⟩)

set_option maxRecDepth 100000 in
set_option maxHeartbeats 4000000 in
theorem c_X8_curfewFrom {Z : GZ} {l : Launch} (hl : l.stackTraces = false) {x t b p h r a e kk L Ld : Nat → Nat} {N u tm nk : Nat} {er dg co li sk scd hcd lcd sc ct ti si fl fa nt dgt cot lit y0 y1 y2 y3 y4 y5 : Int32} {br : Bool} {ss pP pH pF pT pS pD pC tb bP bH op f1 f2 l0 l1 l2 l3 l4 l5 bPd bHd opd f1d f2d l0d l1d l2d l3d l4d l5d sf0 pPt pHt pFt pTt pSt pDt pCt : Nat → Int32} {nm nmd vf0 : Nat → Int64} {kf0 : Nat → Option Nat} {q : Int32}   : Cq Z l yX8_curfewFrom cX8_curfewFrom 2 (some .int) (rmM 8 2 12) [.ref (x 0), .int q] ((((((((wRg Z x t b p h r a e er ++ wSt Z e nt dgt cot lit pPt pHt pFt pTt pSt pDt pCt) ++ wSt Z a (nI N) dg co li pP pH pF pT pS pD pC) ++ wRk Z r h sk ss) ++ wBk Z h L (nI N) (nI u) sc nm bP bH op f1 f2 l0 l1 l2 l3 l4 l5) ++ wBk Z b Ld hcd lcd scd nmd bPd bHd opd f1d f2d l0d l1d l2d l3d l4d l5d) ++ wPa Z p kk b ti si nk br fl fa y0 y1 y2 y3 y4 y5) ++ wTk Z kk t ct kf0 sf0 vf0) ++ wTp Z t (nI tm) tb) (fun v w => v = some (.int (stAt (nI N) q pF (-1))) ∧ w = ((((((((wRg Z x t b p h r a e er ++ wSt Z e nt dgt cot lit pPt pHt pFt pTt pSt pDt pCt) ++ wSt Z a (nI N) dg co li pP pH pF pT pS pD pC) ++ wRk Z r h sk ss) ++ wBk Z h L (nI N) (nI u) sc nm bP bH op f1 f2 l0 l1 l2 l3 l4 l5) ++ wBk Z b Ld hcd lcd scd nmd bPd bHd opd f1d f2d l0d l1d l2d l3d l4d l5d) ++ wPa Z p kk b ti si nk br fl fa y0 y1 y2 y3 y4 y5) ++ wTk Z kk t ct kf0 sf0 vf0) ++ wTp Z t (nI tm) tb) ∧ hasB (nI N) q = true ∧ ¬ stAt (nI N) q pF (-1) = -1) (fun E => (E = "java/lang/IndexOutOfBoundsException" ∧ ¬ hasB (nI N) q = true) ∨ (E = "java/lang/IllegalStateException" ∧ hasB (nI N) q = true ∧ stAt (nI N) q pF (-1) = -1)) := by
  refine Cq.ofJ (own := RX8) (nm := "curfewFrom") (lv0 := [(0, .ref (x 0)), (1, .int q)]) (by decide) rfl rfl (Nat.le_of_ble_eq_true rfl) rfl (fun X hXl C E hT => ?_)
  subst hXl
  refine J_aload_n C iX8_curfewFrom_0 rfl rfl ?_
  refine J_iload_n C iX8_curfewFrom_1 rfl rfl ?_
  refine J_xV (As := [.int q]) (st := []) (w0 := ((((((((wRg Z x t b p h r a e er ++ wSt Z e nt dgt cot lit pPt pHt pFt pTt pSt pDt pCt) ++ wSt Z a (nI N) dg co li pP pH pF pT pS pD pC) ++ wRk Z r h sk ss) ++ wBk Z h L (nI N) (nI u) sc nm bP bH op f1 f2 l0 l1 l2 l3 l4 l5) ++ wBk Z b Ld hcd lcd scd nmd bPd bHd opd f1d f2d l0d l1d l2d l3d l4d l5d) ++ wPa Z p kk b ti si nk br fl fa y0 y1 y2 y3 y4 y5) ++ wTk Z kk t ct kf0 sf0 vf0) ++ wTp Z t (nI tm) tb)) (rc2 := 1) (rs2 := 6) C E hT iX8_curfewFrom_2 lm_X8_119 yc_X8_checkHouse yv_X8_checkHouse (c_X8_checkHouse hl (q := q)) (q0 := 0) rfl rfl rfl [] [] (by simp only [List.append_assoc, List.append_nil, List.nil_append]) rfl (fun E h => Or.inl ⟨h.1, h.2⟩) rfl ⟨by decide, by decide⟩ (Nat.le_of_ble_eq_true rfl) rfl rfl ?_
  rintro _ _ ⟨rfl, rfl, hk0⟩
  refine J_st ([]) rfl ?_
  refine J_ws ((((((((wRg Z x t b p h r a e er ++ wSt Z e nt dgt cot lit pPt pHt pFt pTt pSt pDt pCt) ++ wSt Z a (nI N) dg co li pP pH pF pT pS pD pC) ++ wRk Z r h sk ss) ++ wBk Z h L (nI N) (nI u) sc nm bP bH op f1 f2 l0 l1 l2 l3 l4 l5) ++ wBk Z b Ld hcd lcd scd nmd bPd bHd opd f1d f2d l0d l1d l2d l3d l4d l5d) ++ wPa Z p kk b ti si nk br fl fa y0 y1 y2 y3 y4 y5) ++ wTk Z kk t ct kf0 sf0 vf0) ++ wTp Z t (nI tm) tb) (by simp only [List.append_assoc, List.append_nil, List.nil_append]) ?_
  refine J_aload_n C iX8_curfewFrom_5 rfl rfl ?_
  refine J_iload_n C iX8_curfewFrom_6 rfl rfl ?_
  refine J_xV (As := [.int q]) (st := []) (w0 := ((((((((wRg Z x t b p h r a e er ++ wSt Z e nt dgt cot lit pPt pHt pFt pTt pSt pDt pCt) ++ wSt Z a (nI N) dg co li pP pH pF pT pS pD pC) ++ wRk Z r h sk ss) ++ wBk Z h L (nI N) (nI u) sc nm bP bH op f1 f2 l0 l1 l2 l3 l4 l5) ++ wBk Z b Ld hcd lcd scd nmd bPd bHd opd f1d f2d l0d l1d l2d l3d l4d l5d) ++ wPa Z p kk b ti si nk br fl fa y0 y1 y2 y3 y4 y5) ++ wTk Z kk t ct kf0 sf0 vf0) ++ wTp Z t (nI tm) tb)) (rc2 := 0) (rs2 := 0) C E hT iX8_curfewFrom_7 lm_X8_131 yc_X8_checkCurfew yv_X8_checkCurfew (c_X8_checkCurfew hl (q := q)) (q0 := 0) rfl rfl rfl [] [] (by simp only [List.append_assoc, List.append_nil, List.nil_append]) rfl (fun E h => Or.inr <| ⟨h.1, hk0, h.2⟩) rfl ⟨by decide, by decide⟩ (Nat.le_of_ble_eq_true rfl) rfl rfl ?_
  rintro _ _ ⟨rfl, rfl, hk1⟩
  refine J_st ([]) rfl ?_
  refine J_ws ((((((((wRg Z x t b p h r a e er ++ wSt Z e nt dgt cot lit pPt pHt pFt pTt pSt pDt pCt) ++ wSt Z a (nI N) dg co li pP pH pF pT pS pD pC) ++ wRk Z r h sk ss) ++ wBk Z h L (nI N) (nI u) sc nm bP bH op f1 f2 l0 l1 l2 l3 l4 l5) ++ wBk Z b Ld hcd lcd scd nmd bPd bHd opd f1d f2d l0d l1d l2d l3d l4d l5d) ++ wPa Z p kk b ti si nk br fl fa y0 y1 y2 y3 y4 y5) ++ wTk Z kk t ct kf0 sf0 vf0) ++ wTp Z t (nI tm) tb) (by simp only [List.append_assoc, List.append_nil, List.nil_append]) ?_
  refine J_aload_n C iX8_curfewFrom_10 rfl rfl ?_
  refine J_get (.ref (a 0)) 0 C iX8_curfewFrom_11 gf_X8_52 rfl rfl ?_
  refine J_iload_n C iX8_curfewFrom_14 rfl rfl ?_
  refine J_cVb (As := [.int q]) (st := []) (rc2 := 0) (rs2 := 0) C iX8_curfewFrom_15 lm_X8_128 yc_X5_firstLow yv_X5_firstLow c_X5_firstLow (q0 := 0) rfl rfl rfl (wRg Z x t b p h r a e er ++ wSt Z e nt dgt cot lit pPt pHt pFt pTt pSt pDt pCt) (((((wRk Z r h sk ss ++ wBk Z h L (nI N) (nI u) sc nm bP bH op f1 f2 l0 l1 l2 l3 l4 l5) ++ wBk Z b Ld hcd lcd scd nmd bPd bHd opd f1d f2d l0d l1d l2d l3d l4d l5d) ++ wPa Z p kk b ti si nk br fl fa y0 y1 y2 y3 y4 y5) ++ wTk Z kk t ct kf0 sf0 vf0) ++ wTp Z t (nI tm) tb) rfl rfl ⟨by decide, by decide⟩ (Nat.le_of_ble_eq_true rfl) rfl rfl ?_
  rintro _ _ ⟨rfl, rfl⟩
  refine J_st (.int (stAt (nI N) q pF (-1)) :: []) rfl ?_
  refine J_ws ((((((((wRg Z x t b p h r a e er ++ wSt Z e nt dgt cot lit pPt pHt pFt pTt pSt pDt pCt) ++ wSt Z a (nI N) dg co li pP pH pF pT pS pD pC) ++ wRk Z r h sk ss) ++ wBk Z h L (nI N) (nI u) sc nm bP bH op f1 f2 l0 l1 l2 l3 l4 l5) ++ wBk Z b Ld hcd lcd scd nmd bPd bHd opd f1d f2d l0d l1d l2d l3d l4d l5d) ++ wPa Z p kk b ti si nk br fl fa y0 y1 y2 y3 y4 y5) ++ wTk Z kk t ct kf0 sf0 vf0) ++ wTp Z t (nI tm) tb) rfl ?_
  exact J_x2m (J_iret C E iX8_curfewFrom_18 ⟨rfl, rfl, hk0, hk1⟩)

set_option maxRecDepth 100000 in
set_option maxHeartbeats 4000000 in
theorem c_X8_curfewTo {Z : GZ} {l : Launch} (hl : l.stackTraces = false) {x t b p h r a e kk L Ld : Nat → Nat} {N u tm nk : Nat} {er dg co li sk scd hcd lcd sc ct ti si fl fa nt dgt cot lit y0 y1 y2 y3 y4 y5 : Int32} {br : Bool} {ss pP pH pF pT pS pD pC tb bP bH op f1 f2 l0 l1 l2 l3 l4 l5 bPd bHd opd f1d f2d l0d l1d l2d l3d l4d l5d sf0 pPt pHt pFt pTt pSt pDt pCt : Nat → Int32} {nm nmd vf0 : Nat → Int64} {kf0 : Nat → Option Nat} {q : Int32}   : Cq Z l yX8_curfewTo cX8_curfewTo 2 (some .int) (rmM 8 2 12) [.ref (x 0), .int q] ((((((((wRg Z x t b p h r a e er ++ wSt Z e nt dgt cot lit pPt pHt pFt pTt pSt pDt pCt) ++ wSt Z a (nI N) dg co li pP pH pF pT pS pD pC) ++ wRk Z r h sk ss) ++ wBk Z h L (nI N) (nI u) sc nm bP bH op f1 f2 l0 l1 l2 l3 l4 l5) ++ wBk Z b Ld hcd lcd scd nmd bPd bHd opd f1d f2d l0d l1d l2d l3d l4d l5d) ++ wPa Z p kk b ti si nk br fl fa y0 y1 y2 y3 y4 y5) ++ wTk Z kk t ct kf0 sf0 vf0) ++ wTp Z t (nI tm) tb) (fun v w => v = some (.int (stAt (nI N) q pT (-1))) ∧ w = ((((((((wRg Z x t b p h r a e er ++ wSt Z e nt dgt cot lit pPt pHt pFt pTt pSt pDt pCt) ++ wSt Z a (nI N) dg co li pP pH pF pT pS pD pC) ++ wRk Z r h sk ss) ++ wBk Z h L (nI N) (nI u) sc nm bP bH op f1 f2 l0 l1 l2 l3 l4 l5) ++ wBk Z b Ld hcd lcd scd nmd bPd bHd opd f1d f2d l0d l1d l2d l3d l4d l5d) ++ wPa Z p kk b ti si nk br fl fa y0 y1 y2 y3 y4 y5) ++ wTk Z kk t ct kf0 sf0 vf0) ++ wTp Z t (nI tm) tb) ∧ hasB (nI N) q = true ∧ ¬ stAt (nI N) q pF (-1) = -1) (fun E => (E = "java/lang/IndexOutOfBoundsException" ∧ ¬ hasB (nI N) q = true) ∨ (E = "java/lang/IllegalStateException" ∧ hasB (nI N) q = true ∧ stAt (nI N) q pF (-1) = -1)) := by
  refine Cq.ofJ (own := RX8) (nm := "curfewTo") (lv0 := [(0, .ref (x 0)), (1, .int q)]) (by decide) rfl rfl (Nat.le_of_ble_eq_true rfl) rfl (fun X hXl C E hT => ?_)
  subst hXl
  refine J_aload_n C iX8_curfewTo_0 rfl rfl ?_
  refine J_iload_n C iX8_curfewTo_1 rfl rfl ?_
  refine J_xV (As := [.int q]) (st := []) (w0 := ((((((((wRg Z x t b p h r a e er ++ wSt Z e nt dgt cot lit pPt pHt pFt pTt pSt pDt pCt) ++ wSt Z a (nI N) dg co li pP pH pF pT pS pD pC) ++ wRk Z r h sk ss) ++ wBk Z h L (nI N) (nI u) sc nm bP bH op f1 f2 l0 l1 l2 l3 l4 l5) ++ wBk Z b Ld hcd lcd scd nmd bPd bHd opd f1d f2d l0d l1d l2d l3d l4d l5d) ++ wPa Z p kk b ti si nk br fl fa y0 y1 y2 y3 y4 y5) ++ wTk Z kk t ct kf0 sf0 vf0) ++ wTp Z t (nI tm) tb)) (rc2 := 1) (rs2 := 6) C E hT iX8_curfewTo_2 lm_X8_119 yc_X8_checkHouse yv_X8_checkHouse (c_X8_checkHouse hl (q := q)) (q0 := 0) rfl rfl rfl [] [] (by simp only [List.append_assoc, List.append_nil, List.nil_append]) rfl (fun E h => Or.inl ⟨h.1, h.2⟩) rfl ⟨by decide, by decide⟩ (Nat.le_of_ble_eq_true rfl) rfl rfl ?_
  rintro _ _ ⟨rfl, rfl, hk0⟩
  refine J_st ([]) rfl ?_
  refine J_ws ((((((((wRg Z x t b p h r a e er ++ wSt Z e nt dgt cot lit pPt pHt pFt pTt pSt pDt pCt) ++ wSt Z a (nI N) dg co li pP pH pF pT pS pD pC) ++ wRk Z r h sk ss) ++ wBk Z h L (nI N) (nI u) sc nm bP bH op f1 f2 l0 l1 l2 l3 l4 l5) ++ wBk Z b Ld hcd lcd scd nmd bPd bHd opd f1d f2d l0d l1d l2d l3d l4d l5d) ++ wPa Z p kk b ti si nk br fl fa y0 y1 y2 y3 y4 y5) ++ wTk Z kk t ct kf0 sf0 vf0) ++ wTp Z t (nI tm) tb) (by simp only [List.append_assoc, List.append_nil, List.nil_append]) ?_
  refine J_aload_n C iX8_curfewTo_5 rfl rfl ?_
  refine J_iload_n C iX8_curfewTo_6 rfl rfl ?_
  refine J_xV (As := [.int q]) (st := []) (w0 := ((((((((wRg Z x t b p h r a e er ++ wSt Z e nt dgt cot lit pPt pHt pFt pTt pSt pDt pCt) ++ wSt Z a (nI N) dg co li pP pH pF pT pS pD pC) ++ wRk Z r h sk ss) ++ wBk Z h L (nI N) (nI u) sc nm bP bH op f1 f2 l0 l1 l2 l3 l4 l5) ++ wBk Z b Ld hcd lcd scd nmd bPd bHd opd f1d f2d l0d l1d l2d l3d l4d l5d) ++ wPa Z p kk b ti si nk br fl fa y0 y1 y2 y3 y4 y5) ++ wTk Z kk t ct kf0 sf0 vf0) ++ wTp Z t (nI tm) tb)) (rc2 := 0) (rs2 := 0) C E hT iX8_curfewTo_7 lm_X8_131 yc_X8_checkCurfew yv_X8_checkCurfew (c_X8_checkCurfew hl (q := q)) (q0 := 0) rfl rfl rfl [] [] (by simp only [List.append_assoc, List.append_nil, List.nil_append]) rfl (fun E h => Or.inr <| ⟨h.1, hk0, h.2⟩) rfl ⟨by decide, by decide⟩ (Nat.le_of_ble_eq_true rfl) rfl rfl ?_
  rintro _ _ ⟨rfl, rfl, hk1⟩
  refine J_st ([]) rfl ?_
  refine J_ws ((((((((wRg Z x t b p h r a e er ++ wSt Z e nt dgt cot lit pPt pHt pFt pTt pSt pDt pCt) ++ wSt Z a (nI N) dg co li pP pH pF pT pS pD pC) ++ wRk Z r h sk ss) ++ wBk Z h L (nI N) (nI u) sc nm bP bH op f1 f2 l0 l1 l2 l3 l4 l5) ++ wBk Z b Ld hcd lcd scd nmd bPd bHd opd f1d f2d l0d l1d l2d l3d l4d l5d) ++ wPa Z p kk b ti si nk br fl fa y0 y1 y2 y3 y4 y5) ++ wTk Z kk t ct kf0 sf0 vf0) ++ wTp Z t (nI tm) tb) (by simp only [List.append_assoc, List.append_nil, List.nil_append]) ?_
  refine J_aload_n C iX8_curfewTo_10 rfl rfl ?_
  refine J_get (.ref (a 0)) 0 C iX8_curfewTo_11 gf_X8_52 rfl rfl ?_
  refine J_iload_n C iX8_curfewTo_14 rfl rfl ?_
  refine J_cVb (As := [.int q]) (st := []) (rc2 := 0) (rs2 := 0) C iX8_curfewTo_15 lm_X8_134 yc_X5_lastLow yv_X5_lastLow c_X5_lastLow (q0 := 0) rfl rfl rfl (wRg Z x t b p h r a e er ++ wSt Z e nt dgt cot lit pPt pHt pFt pTt pSt pDt pCt) (((((wRk Z r h sk ss ++ wBk Z h L (nI N) (nI u) sc nm bP bH op f1 f2 l0 l1 l2 l3 l4 l5) ++ wBk Z b Ld hcd lcd scd nmd bPd bHd opd f1d f2d l0d l1d l2d l3d l4d l5d) ++ wPa Z p kk b ti si nk br fl fa y0 y1 y2 y3 y4 y5) ++ wTk Z kk t ct kf0 sf0 vf0) ++ wTp Z t (nI tm) tb) rfl rfl ⟨by decide, by decide⟩ (Nat.le_of_ble_eq_true rfl) rfl rfl ?_
  rintro _ _ ⟨rfl, rfl⟩
  refine J_st (.int (stAt (nI N) q pT (-1)) :: []) rfl ?_
  refine J_ws ((((((((wRg Z x t b p h r a e er ++ wSt Z e nt dgt cot lit pPt pHt pFt pTt pSt pDt pCt) ++ wSt Z a (nI N) dg co li pP pH pF pT pS pD pC) ++ wRk Z r h sk ss) ++ wBk Z h L (nI N) (nI u) sc nm bP bH op f1 f2 l0 l1 l2 l3 l4 l5) ++ wBk Z b Ld hcd lcd scd nmd bPd bHd opd f1d f2d l0d l1d l2d l3d l4d l5d) ++ wPa Z p kk b ti si nk br fl fa y0 y1 y2 y3 y4 y5) ++ wTk Z kk t ct kf0 sf0 vf0) ++ wTp Z t (nI tm) tb) rfl ?_
  exact J_x2m (J_iret C E iX8_curfewTo_18 ⟨rfl, rfl, hk0, hk1⟩)

set_option maxRecDepth 100000 in
set_option maxHeartbeats 4000000 in
theorem c_X8_heightAt {Z : GZ} {l : Launch} (hl : l.stackTraces = false) {x t b p h r a e kk L Ld : Nat → Nat} {N u tm nk : Nat} {er dg co li sk scd hcd lcd sc ct ti si fl fa nt dgt cot lit y0 y1 y2 y3 y4 y5 : Int32} {br : Bool} {ss pP pH pF pT pS pD pC tb bP bH op f1 f2 l0 l1 l2 l3 l4 l5 bPd bHd opd f1d f2d l0d l1d l2d l3d l4d l5d sf0 pPt pHt pFt pTt pSt pDt pCt : Nat → Int32} {nm nmd vf0 : Nat → Int64} {kf0 : Nat → Option Nat} {q : Int32} {g : Int32}   : Cq Z l yX8_heightAt cX8_heightAt 3 (some .int) (rmM 8 2 12) [.ref (x 0), .int q, .int g] ((((((((wRg Z x t b p h r a e er ++ wSt Z e nt dgt cot lit pPt pHt pFt pTt pSt pDt pCt) ++ wSt Z a (nI N) dg co li pP pH pF pT pS pD pC) ++ wRk Z r h sk ss) ++ wBk Z h L (nI N) (nI u) sc nm bP bH op f1 f2 l0 l1 l2 l3 l4 l5) ++ wBk Z b Ld hcd lcd scd nmd bPd bHd opd f1d f2d l0d l1d l2d l3d l4d l5d) ++ wPa Z p kk b ti si nk br fl fa y0 y1 y2 y3 y4 y5) ++ wTk Z kk t ct kf0 sf0 vf0) ++ wTp Z t (nI tm) tb) (fun v w => v = some (.int (wallF (nI N) pH pF pT q g)) ∧ w = ((((((((wRg Z x t b p h r a e er ++ wSt Z e nt dgt cot lit pPt pHt pFt pTt pSt pDt pCt) ++ wSt Z a (nI N) dg co li pP pH pF pT pS pD pC) ++ wRk Z r h sk ss) ++ wBk Z h L (nI N) (nI u) sc nm bP bH op f1 f2 l0 l1 l2 l3 l4 l5) ++ wBk Z b Ld hcd lcd scd nmd bPd bHd opd f1d f2d l0d l1d l2d l3d l4d l5d) ++ wPa Z p kk b ti si nk br fl fa y0 y1 y2 y3 y4 y5) ++ wTk Z kk t ct kf0 sf0 vf0) ++ wTp Z t (nI tm) tb) ∧ hasB (nI N) q = true ∧ ¬ (g < 0 ∨ 24 ≤ g)) (fun E => (E = "java/lang/IndexOutOfBoundsException" ∧ ¬ hasB (nI N) q = true) ∨ (E = "java/lang/IndexOutOfBoundsException" ∧ hasB (nI N) q = true ∧ (g < 0 ∨ 24 ≤ g))) := by
  refine Cq.ofJ (own := RX8) (nm := "heightAt") (lv0 := [(0, .ref (x 0)), (1, .int q), (2, .int g)]) (by decide) rfl rfl (Nat.le_of_ble_eq_true rfl) rfl (fun X hXl C E hT => ?_)
  subst hXl
  refine J_aload_n C iX8_heightAt_0 rfl rfl ?_
  refine J_iload_n C iX8_heightAt_1 rfl rfl ?_
  refine J_xV (As := [.int q]) (st := []) (w0 := ((((((((wRg Z x t b p h r a e er ++ wSt Z e nt dgt cot lit pPt pHt pFt pTt pSt pDt pCt) ++ wSt Z a (nI N) dg co li pP pH pF pT pS pD pC) ++ wRk Z r h sk ss) ++ wBk Z h L (nI N) (nI u) sc nm bP bH op f1 f2 l0 l1 l2 l3 l4 l5) ++ wBk Z b Ld hcd lcd scd nmd bPd bHd opd f1d f2d l0d l1d l2d l3d l4d l5d) ++ wPa Z p kk b ti si nk br fl fa y0 y1 y2 y3 y4 y5) ++ wTk Z kk t ct kf0 sf0 vf0) ++ wTp Z t (nI tm) tb)) (rc2 := 1) (rs2 := 6) C E hT iX8_heightAt_2 lm_X8_119 yc_X8_checkHouse yv_X8_checkHouse (c_X8_checkHouse hl (q := q)) (q0 := 0) rfl rfl rfl [] [] (by simp only [List.append_assoc, List.append_nil, List.nil_append]) rfl (fun E h => Or.inl ⟨h.1, h.2⟩) rfl ⟨by decide, by decide⟩ (Nat.le_of_ble_eq_true rfl) rfl rfl ?_
  rintro _ _ ⟨rfl, rfl, hk0⟩
  refine J_st ([]) rfl ?_
  refine J_ws ((((((((wRg Z x t b p h r a e er ++ wSt Z e nt dgt cot lit pPt pHt pFt pTt pSt pDt pCt) ++ wSt Z a (nI N) dg co li pP pH pF pT pS pD pC) ++ wRk Z r h sk ss) ++ wBk Z h L (nI N) (nI u) sc nm bP bH op f1 f2 l0 l1 l2 l3 l4 l5) ++ wBk Z b Ld hcd lcd scd nmd bPd bHd opd f1d f2d l0d l1d l2d l3d l4d l5d) ++ wPa Z p kk b ti si nk br fl fa y0 y1 y2 y3 y4 y5) ++ wTk Z kk t ct kf0 sf0 vf0) ++ wTp Z t (nI tm) tb) (by simp only [List.append_assoc, List.append_nil, List.nil_append]) ?_
  refine J_iload_n C iX8_heightAt_5 rfl rfl ?_
  refine J_xS (As := [.int g]) (st := []) (w0 := []) (rc2 := 0) (rs2 := 0) C E hT iX8_heightAt_6 lm_X8_146 yc_X8_checkHour ys_X8_checkHour (c_X8_checkHour hl (q := g)) ((((((((wRg Z x t b p h r a e er ++ wSt Z e nt dgt cot lit pPt pHt pFt pTt pSt pDt pCt) ++ wSt Z a (nI N) dg co li pP pH pF pT pS pD pC) ++ wRk Z r h sk ss) ++ wBk Z h L (nI N) (nI u) sc nm bP bH op f1 f2 l0 l1 l2 l3 l4 l5) ++ wBk Z b Ld hcd lcd scd nmd bPd bHd opd f1d f2d l0d l1d l2d l3d l4d l5d) ++ wPa Z p kk b ti si nk br fl fa y0 y1 y2 y3 y4 y5) ++ wTk Z kk t ct kf0 sf0 vf0) ++ wTp Z t (nI tm) tb) [] (by simp only [List.append_assoc, List.append_nil, List.nil_append]) rfl (fun E h => Or.inr <| ⟨h.1, hk0, h.2⟩) rfl ⟨by decide, by decide⟩ (Nat.le_of_ble_eq_true rfl) rfl rfl ?_
  rintro _ _ ⟨rfl, rfl, hk1⟩
  refine J_st ([]) rfl ?_
  refine J_ws ((((((((wRg Z x t b p h r a e er ++ wSt Z e nt dgt cot lit pPt pHt pFt pTt pSt pDt pCt) ++ wSt Z a (nI N) dg co li pP pH pF pT pS pD pC) ++ wRk Z r h sk ss) ++ wBk Z h L (nI N) (nI u) sc nm bP bH op f1 f2 l0 l1 l2 l3 l4 l5) ++ wBk Z b Ld hcd lcd scd nmd bPd bHd opd f1d f2d l0d l1d l2d l3d l4d l5d) ++ wPa Z p kk b ti si nk br fl fa y0 y1 y2 y3 y4 y5) ++ wTk Z kk t ct kf0 sf0 vf0) ++ wTp Z t (nI tm) tb) (by simp only [List.append_assoc, List.append_nil, List.nil_append]) ?_
  refine J_aload_n C iX8_heightAt_9 rfl rfl ?_
  refine J_get (.ref (a 0)) 0 C iX8_heightAt_10 gf_X8_52 rfl rfl ?_
  refine J_iload_n C iX8_heightAt_13 rfl rfl ?_
  refine J_iload_n C iX8_heightAt_14 rfl rfl ?_
  refine J_cVb (As := [.int q, .int g]) (st := []) (rc2 := 0) (rs2 := 0) C iX8_heightAt_15 lm_X8_149 yc_X5_wallAt yv_X5_wallAt c_X5_wallAt (q0 := 0) rfl rfl rfl (wRg Z x t b p h r a e er ++ wSt Z e nt dgt cot lit pPt pHt pFt pTt pSt pDt pCt) (((((wRk Z r h sk ss ++ wBk Z h L (nI N) (nI u) sc nm bP bH op f1 f2 l0 l1 l2 l3 l4 l5) ++ wBk Z b Ld hcd lcd scd nmd bPd bHd opd f1d f2d l0d l1d l2d l3d l4d l5d) ++ wPa Z p kk b ti si nk br fl fa y0 y1 y2 y3 y4 y5) ++ wTk Z kk t ct kf0 sf0 vf0) ++ wTp Z t (nI tm) tb) rfl rfl ⟨by decide, by decide⟩ (Nat.le_of_ble_eq_true rfl) rfl rfl ?_
  rintro _ _ ⟨rfl, rfl⟩
  refine J_st (.int (wallF (nI N) pH pF pT q g) :: []) rfl ?_
  refine J_ws ((((((((wRg Z x t b p h r a e er ++ wSt Z e nt dgt cot lit pPt pHt pFt pTt pSt pDt pCt) ++ wSt Z a (nI N) dg co li pP pH pF pT pS pD pC) ++ wRk Z r h sk ss) ++ wBk Z h L (nI N) (nI u) sc nm bP bH op f1 f2 l0 l1 l2 l3 l4 l5) ++ wBk Z b Ld hcd lcd scd nmd bPd bHd opd f1d f2d l0d l1d l2d l3d l4d l5d) ++ wPa Z p kk b ti si nk br fl fa y0 y1 y2 y3 y4 y5) ++ wTk Z kk t ct kf0 sf0 vf0) ++ wTp Z t (nI tm) tb) rfl ?_
  exact J_x2m (J_iret C E iX8_heightAt_18 ⟨rfl, rfl, hk0, hk1⟩)

