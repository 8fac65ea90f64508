set_option maxRecDepth 100000 in
set_option maxHeartbeats 4000000 in
theorem c_X8_meanLost {Z : GZ} {l : Launch} {x t b p h r a e kk L Ld : Nat → Nat} {N u tm nk : Nat} {er dg co sk scd hcd lcd sc ct ti si fl fa nt dgt cot lit y0 y1 y2 y3 y4 y5 : Int32} {br : Bool} {ss pP pH pF pT pS pD pC tb bP bH op f1 f2 l0 l1 l2 l3 l4 l5 bPd bHd opd f1d f2d l0d l1d l2d l3d l4d l5d sf0 pPt pHt pFt pTt pSt pDt pCt : Nat → Int32} {nm nmd vf0 : Nat → Int64} {kf0 : Nat → Option Nat} {t0 : Nat} (hN : N ≤ 12) (ht : t0 < 157)  : Ct Z l yX8_meanLost cX8_meanLost 1 (some .double) (rmK 0) [.ref (x 0)] ((((((((wRg Z x t b p h r a e er ++ wSt Z e nt dgt cot lit pPt pHt pFt pTt pSt pDt pCt) ++ wSt Z a (nI N) dg co (nI t0) pP pH pF pT pS pD pC) ++ wRk Z r h sk ss) ++ wBk Z h L (nI N) (nI u) sc nm bP bH op f1 f2 l0 l1 l2 l3 l4 l5) ++ wBk Z b Ld hcd lcd scd nmd bPd bHd opd f1d f2d l0d l1d l2d l3d l4d l5d) ++ wPa Z p kk b ti si nk br fl fa y0 y1 y2 y3 y4 y5) ++ wTk Z kk t ct kf0 sf0 vf0) ++ wTp Z t (nI tm) tb) (fun v w => v = some (.double (mlX N (nI t0))) ∧ w = ((((((((wRg Z x t b p h r a e er ++ wSt Z e nt dgt cot lit pPt pHt pFt pTt pSt pDt pCt) ++ wSt Z a (nI N) dg co (nI t0) pP pH pF pT pS pD pC) ++ wRk Z r h sk ss) ++ wBk Z h L (nI N) (nI u) sc nm bP bH op f1 f2 l0 l1 l2 l3 l4 l5) ++ wBk Z b Ld hcd lcd scd nmd bPd bHd opd f1d f2d l0d l1d l2d l3d l4d l5d) ++ wPa Z p kk b ti si nk br fl fa y0 y1 y2 y3 y4 y5) ++ wTk Z kk t ct kf0 sf0 vf0) ++ wTp Z t (nI tm) tb)) := by
  refine Ct.ofJ (own := RX8) (nm := "meanLost") (lv0 := [(0, .ref (x 0))]) (by decide) rfl rfl (Nat.le_of_ble_eq_true rfl) rfl (fun X hXl C E => ?_)
  subst hXl
  refine J_aload_n C iX8_meanLost_0 rfl rfl ?_
  refine J_get (.ref (a 0)) 0 C iX8_meanLost_1 gf_X8_52 rfl rfl ?_
  refine J_get (.int (nI N)) 9 C iX8_meanLost_4 gf_X8_95 rfl rfl ?_
  refine J_ifne 12 C iX8_meanLost_7 rfl (fun h7 => ?_) (fun h7 => ?_)
  · refine J_aload_n C iX8_meanLost_12 rfl rfl ?_
    refine J_get (.ref (a 0)) 0 C iX8_meanLost_13 gf_X8_52 rfl rfl ?_
    refine J_get (.int (nI t0)) 9 C iX8_meanLost_16 gf_X8_107 rfl rfl ?_
    refine J_i2d C iX8_meanLost_19 ?_
    refine J_aload_n C iX8_meanLost_20 rfl rfl ?_
    refine J_get (.ref (a 0)) 0 C iX8_meanLost_21 gf_X8_52 rfl rfl ?_
    refine J_get (.int (nI N)) 9 C iX8_meanLost_24 gf_X8_95 rfl rfl ?_
    refine J_i2d C iX8_meanLost_27 ?_
    refine J_ddiv C iX8_meanLost_28 (dm_ok2 hN h7 ht) ?_
    exact J_dret C E iX8_meanLost_29 ⟨by rw [mlX, if_neg h7], rfl⟩
  · refine J_dconst0 C iX8_meanLost_10 ?_
    exact J_dret C E iX8_meanLost_11 ⟨by rw [mlX, if_pos h7], rfl⟩

