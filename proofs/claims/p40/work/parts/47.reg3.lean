set_option maxRecDepth 100000 in
set_option maxHeartbeats 4000000 in
theorem c_X8_setCurfew {Z : GZ} {l : Launch} (hl : l.stackTraces = false) {x t b p h r a e kk L Ld : Nat → Nat} {N u tm nk : Nat} {er dg co li sk scd hcd lcd sc ct ti si fl fa nt dgt cot lit y0 y1 y2 y3 y4 y5 : Int32} {br : Bool} {ss pP pH pF pT pS pD pC tb bP bH op f1 f2 l0 l1 l2 l3 l4 l5 bPd bHd opd f1d f2d l0d l1d l2d l3d l4d l5d sf0 pPt pHt pFt pTt pSt pDt pCt : Nat → Int32} {nm nmd vf0 : Nat → Int64} {kf0 : Nat → Option Nat} {q : Int32} {fr : Int32} {to_ : Int32} (hN : N ≤ 12) (ok : StOk N pP pH pF pT li pS pD pC)  : Cq Z l yX8_setCurfew cX8_setCurfew 4 (some .int) (rmM 8 2 12) [.ref (x 0), .int q, .int fr, .int to_] ((((((((wRg Z x t b p h r a e er ++ wSt Z e nt dgt cot lit pPt pHt pFt pTt pSt pDt pCt) ++ wSt Z a (nI N) dg co li pP pH pF pT pS pD pC) ++ wRk Z r h sk ss) ++ wBk Z h L (nI N) (nI u) sc nm bP bH op f1 f2 l0 l1 l2 l3 l4 l5) ++ wBk Z b Ld hcd lcd scd nmd bPd bHd opd f1d f2d l0d l1d l2d l3d l4d l5d) ++ wPa Z p kk b ti si nk br fl fa y0 y1 y2 y3 y4 y5) ++ wTk Z kk t ct kf0 sf0 vf0) ++ wTp Z t (nI tm) tb) (fun v w => ∃ li2 S2 D2 C2, v = some (.int (li2)) ∧ w = ((((((((wRg Z x t b p h r a e er ++ wSt Z e nt dgt cot lit pPt pHt pFt pTt pSt pDt pCt) ++ wSt Z a (nI N) dg co li2 pP pH (upd pF q.toNatClampNeg fr) (upd pT q.toNatClampNeg to_) S2 D2 C2) ++ wRk Z r h sk ss) ++ wBk Z h L (nI N) (nI u) sc nm bP bH op f1 f2 l0 l1 l2 l3 l4 l5) ++ wBk Z b Ld hcd lcd scd nmd bPd bHd opd f1d f2d l0d l1d l2d l3d l4d l5d) ++ wPa Z p kk b ti si nk br fl fa y0 y1 y2 y3 y4 y5) ++ wTk Z kk t ct kf0 sf0 vf0) ++ wTp Z t (nI tm) tb) ∧ StOk N pP pH (upd pF q.toNatClampNeg fr) (upd pT q.toNatClampNeg to_) li2 S2 D2 C2 ∧ hasB (nI N) q = true ∧ ¬ (fr < 6 ∨ 18 < to_ ∨ to_ < fr)) (fun E => (E = "java/lang/IndexOutOfBoundsException" ∧ ¬ hasB (nI N) q = true) ∨ (E = "java/lang/IllegalArgumentException" ∧ hasB (nI N) q = true ∧ (fr < 6 ∨ 18 < to_ ∨ to_ < fr))) := by
  refine Cq.ofJ (own := RX8) (nm := "setCurfew") (lv0 := [(0, .ref (x 0)), (1, .int q), (2, .int fr), (3, .int to_)]) (by decide) rfl rfl (Nat.le_of_ble_eq_true rfl) rfl (fun X hXl C E hT => ?_)
  subst hXl
  refine J_aload_n C iX8_setCurfew_0 rfl rfl ?_
  refine J_iload_n C iX8_setCurfew_1 rfl rfl ?_
  refine J_xV (As := [.int q]) (st := []) (w0 := ((((((((wRg Z x t b p h r a e er ++ wSt Z e nt dgt cot lit pPt pHt pFt pTt pSt pDt pCt) ++ wSt Z a (nI N) dg co li pP pH pF pT pS pD pC) ++ wRk Z r h sk ss) ++ wBk Z h L (nI N) (nI u) sc nm bP bH op f1 f2 l0 l1 l2 l3 l4 l5) ++ wBk Z b Ld hcd lcd scd nmd bPd bHd opd f1d f2d l0d l1d l2d l3d l4d l5d) ++ wPa Z p kk b ti si nk br fl fa y0 y1 y2 y3 y4 y5) ++ wTk Z kk t ct kf0 sf0 vf0) ++ wTp Z t (nI tm) tb)) (rc2 := 1) (rs2 := 6) C E hT iX8_setCurfew_2 lm_X8_119 yc_X8_checkHouse yv_X8_checkHouse (c_X8_checkHouse hl (q := q)) (q0 := 0) rfl rfl rfl [] [] (by simp only [List.append_assoc, List.append_nil, List.nil_append]) rfl (fun E h => Or.inl ⟨h.1, h.2⟩) rfl ⟨by decide, by decide⟩ (Nat.le_of_ble_eq_true rfl) rfl rfl ?_
  rintro _ _ ⟨rfl, rfl, hk0⟩
  refine J_st ([]) rfl ?_
  refine J_ws ((((((((wRg Z x t b p h r a e er ++ wSt Z e nt dgt cot lit pPt pHt pFt pTt pSt pDt pCt) ++ wSt Z a (nI N) dg co li pP pH pF pT pS pD pC) ++ wRk Z r h sk ss) ++ wBk Z h L (nI N) (nI u) sc nm bP bH op f1 f2 l0 l1 l2 l3 l4 l5) ++ wBk Z b Ld hcd lcd scd nmd bPd bHd opd f1d f2d l0d l1d l2d l3d l4d l5d) ++ wPa Z p kk b ti si nk br fl fa y0 y1 y2 y3 y4 y5) ++ wTk Z kk t ct kf0 sf0 vf0) ++ wTp Z t (nI tm) tb) (by simp only [List.append_assoc, List.append_nil, List.nil_append]) ?_
  obtain ⟨i, hi, rfl⟩ := hasB_ex hN hk0
  refine J_iload_n C iX8_setCurfew_5 rfl rfl ?_
  refine J_bipush 6 C iX8_setCurfew_6 rfl ?_
  refine J_icmplt 22 C iX8_setCurfew_8 rfl (fun h8 => ?_) (fun h8 => ?_)
  · exact J_throw (text := "these are no hours of a curfew") C hl E hT iX8_setCurfew_22 iX8_setCurfew_25 iX8_setCurfew_26 iX8_setCurfew_28 iX8_setCurfew_31 (tsg_in (i := 567) (by decide +kernel) rfl) (tsg_in (i := 61) (by decide +kernel) rfl) (by decide) hat_81 (by decide) ⟨by decide, by decide⟩ (by decide) (by decide) (Or.inr ⟨rfl, hk0, Or.inl h8⟩) rfl
  · refine J_iload_n C iX8_setCurfew_11 rfl rfl ?_
    refine J_bipush 18 C iX8_setCurfew_12 rfl ?_
    refine J_icmpgt 22 C iX8_setCurfew_14 rfl (fun h14 => ?_) (fun h14 => ?_)
    · exact J_throw (text := "these are no hours of a curfew") C hl E hT iX8_setCurfew_22 iX8_setCurfew_25 iX8_setCurfew_26 iX8_setCurfew_28 iX8_setCurfew_31 (tsg_in (i := 567) (by decide +kernel) rfl) (tsg_in (i := 61) (by decide +kernel) rfl) (by decide) hat_81 (by decide) ⟨by decide, by decide⟩ (by decide) (by decide) (Or.inr ⟨rfl, hk0, Or.inr (Or.inl h14)⟩) rfl
    · refine J_iload_n C iX8_setCurfew_17 rfl rfl ?_
      refine J_iload_n C iX8_setCurfew_18 rfl rfl ?_
      refine J_icmpge 32 C iX8_setCurfew_19 rfl (fun h19 => ?_) (fun h19 => ?_)
      · refine J_aload_n C iX8_setCurfew_32 rfl rfl ?_
        refine J_get (.ref (a 0)) 0 C iX8_setCurfew_33 gf_X8_52 rfl rfl ?_
        refine J_iload_n C iX8_setCurfew_36 rfl rfl ?_
        refine J_iload_n C iX8_setCurfew_37 rfl rfl ?_
        refine J_iload_n C iX8_setCurfew_38 rfl rfl ?_
        refine J_cVb (As := [.int (nI i), .int fr, .int to_]) (st := []) (rc2 := 1) (rs2 := 6) C iX8_setCurfew_39 lm_X8_174 yc_X5_giveCurfew yv_X5_giveCurfew (c_X5_giveCurfew hN hi ok) (q0 := 0) rfl rfl rfl (wRg Z x t b p h r a e er ++ wSt Z e nt dgt cot lit pPt pHt pFt pTt pSt pDt pCt) (((((wRk Z r h sk ss ++ wBk Z h L (nI N) (nI u) sc nm bP bH op f1 f2 l0 l1 l2 l3 l4 l5) ++ wBk Z b Ld hcd lcd scd nmd bPd bHd opd f1d f2d l0d l1d l2d l3d l4d l5d) ++ wPa Z p kk b ti si nk br fl fa y0 y1 y2 y3 y4 y5) ++ wTk Z kk t ct kf0 sf0 vf0) ++ wTp Z t (nI tm) tb) rfl rfl ⟨by decide, by decide⟩ (Nat.le_of_ble_eq_true rfl) rfl rfl ?_
        rintro _ _ ⟨li_1, S_1, D_1, C_1, rfl, rfl, ok_1⟩
        refine J_st (.int (b2i (!(decide (pF i = fr) && decide (pT i = to_)))) :: []) rfl ?_
        refine J_ws ((((((((wRg Z x t b p h r a e er ++ wSt Z e nt dgt cot lit pPt pHt pFt pTt pSt pDt pCt) ++ wSt Z a (nI N) dg co li_1 pP pH (upd pF i fr) (upd pT i to_) S_1 D_1 C_1) ++ wRk Z r h sk ss) ++ wBk Z h L (nI N) (nI u) sc nm bP bH op f1 f2 l0 l1 l2 l3 l4 l5) ++ wBk Z b Ld hcd lcd scd nmd bPd bHd opd f1d f2d l0d l1d l2d l3d l4d l5d) ++ wPa Z p kk b ti si nk br fl fa y0 y1 y2 y3 y4 y5) ++ wTk Z kk t ct kf0 sf0 vf0) ++ wTp Z t (nI tm) tb) rfl ?_
        refine J_pop C iX8_setCurfew_42 rfl ?_
        refine J_aload_n C iX8_setCurfew_43 rfl rfl ?_
        refine J_get (.ref (a 0)) 0 C iX8_setCurfew_44 gf_X8_52 rfl rfl ?_
        refine J_get (.int li_1) 9 C iX8_setCurfew_47 gf_X8_107 rfl rfl ?_
        exact J_x2m (J_iret C E iX8_setCurfew_50 ⟨li_1, S_1, D_1, C_1, rfl, by rw [nI_clamp (by omega)], by rw [nI_clamp (by omega)]; exact ok_1, hk0, not_or.mpr ⟨h8, not_or.mpr ⟨h14, Int32.not_lt.mpr h19⟩⟩⟩)
      · exact J_throw (text := "these are no hours of a curfew") C hl E hT iX8_setCurfew_22 iX8_setCurfew_25 iX8_setCurfew_26 iX8_setCurfew_28 iX8_setCurfew_31 (tsg_in (i := 567) (by decide +kernel) rfl) (tsg_in (i := 61) (by decide +kernel) rfl) (by decide) hat_81 (by decide) ⟨by decide, by decide⟩ (by decide) (by decide) (Or.inr ⟨rfl, hk0, Or.inr (Or.inr (Int32.not_le.mp h19))⟩) rfl

set_option maxRecDepth 100000 in
set_option maxHeartbeats 4000000 in
theorem c_X8_endCurfew {Z : GZ} {l : Launch} (hl : l.stackTraces = false) {x t b p h r a e kk L Ld : Nat → Nat} {N u tm nk : Nat} {er dg co li sk scd hcd lcd sc ct ti si fl fa nt dgt cot lit y0 y1 y2 y3 y4 y5 : Int32} {br : Bool} {ss pP pH pF pT pS pD pC tb bP bH op f1 f2 l0 l1 l2 l3 l4 l5 bPd bHd opd f1d f2d l0d l1d l2d l3d l4d l5d sf0 pPt pHt pFt pTt pSt pDt pCt : Nat → Int32} {nm nmd vf0 : Nat → Int64} {kf0 : Nat → Option Nat} {q : Int32} (hN : N ≤ 12) (ok : StOk N pP pH pF pT li pS pD pC)  : Cq Z l yX8_endCurfew cX8_endCurfew 2 (some .int) (rmM 8 2 12) [.ref (x 0), .int q] ((((((((wRg Z x t b p h r a e er ++ wSt Z e nt dgt cot lit pPt pHt pFt pTt pSt pDt pCt) ++ wSt Z a (nI N) dg co li pP pH pF pT pS pD pC) ++ wRk Z r h sk ss) ++ wBk Z h L (nI N) (nI u) sc nm bP bH op f1 f2 l0 l1 l2 l3 l4 l5) ++ wBk Z b Ld hcd lcd scd nmd bPd bHd opd f1d f2d l0d l1d l2d l3d l4d l5d) ++ wPa Z p kk b ti si nk br fl fa y0 y1 y2 y3 y4 y5) ++ wTk Z kk t ct kf0 sf0 vf0) ++ wTp Z t (nI tm) tb) (fun v w => ∃ li2 S2 D2 C2, v = some (.int (li2)) ∧ w = ((((((((wRg Z x t b p h r a e er ++ wSt Z e nt dgt cot lit pPt pHt pFt pTt pSt pDt pCt) ++ wSt Z a (nI N) dg co li2 pP pH (upd pF q.toNatClampNeg (-1)) (upd pT q.toNatClampNeg (-1)) S2 D2 C2) ++ wRk Z r h sk ss) ++ wBk Z h L (nI N) (nI u) sc nm bP bH op f1 f2 l0 l1 l2 l3 l4 l5) ++ wBk Z b Ld hcd lcd scd nmd bPd bHd opd f1d f2d l0d l1d l2d l3d l4d l5d) ++ wPa Z p kk b ti si nk br fl fa y0 y1 y2 y3 y4 y5) ++ wTk Z kk t ct kf0 sf0 vf0) ++ wTp Z t (nI tm) tb) ∧ StOk N pP pH (upd pF q.toNatClampNeg (-1)) (upd pT q.toNatClampNeg (-1)) li2 S2 D2 C2 ∧ hasB (nI N) q = true ∧ ¬ stAt (nI N) q pF (-1) = -1) (fun E => (E = "java/lang/IndexOutOfBoundsException" ∧ ¬ hasB (nI N) q = true) ∨ (E = "java/lang/IllegalStateException" ∧ hasB (nI N) q = true ∧ stAt (nI N) q pF (-1) = -1)) := by
  refine Cq.ofJ (own := RX8) (nm := "endCurfew") (lv0 := [(0, .ref (x 0)), (1, .int q)]) (by decide) rfl rfl (Nat.le_of_ble_eq_true rfl) rfl (fun X hXl C E hT => ?_)
  subst hXl
  refine J_aload_n C iX8_endCurfew_0 rfl rfl ?_
  refine J_iload_n C iX8_endCurfew_1 rfl rfl ?_
  refine J_xV (As := [.int q]) (st := []) (w0 := ((((((((wRg Z x t b p h r a e er ++ wSt Z e nt dgt cot lit pPt pHt pFt pTt pSt pDt pCt) ++ wSt Z a (nI N) dg co li pP pH pF pT pS pD pC) ++ wRk Z r h sk ss) ++ wBk Z h L (nI N) (nI u) sc nm bP bH op f1 f2 l0 l1 l2 l3 l4 l5) ++ wBk Z b Ld hcd lcd scd nmd bPd bHd opd f1d f2d l0d l1d l2d l3d l4d l5d) ++ wPa Z p kk b ti si nk br fl fa y0 y1 y2 y3 y4 y5) ++ wTk Z kk t ct kf0 sf0 vf0) ++ wTp Z t (nI tm) tb)) (rc2 := 1) (rs2 := 6) C E hT iX8_endCurfew_2 lm_X8_119 yc_X8_checkHouse yv_X8_checkHouse (c_X8_checkHouse hl (q := q)) (q0 := 0) rfl rfl rfl [] [] (by simp only [List.append_assoc, List.append_nil, List.nil_append]) rfl (fun E h => Or.inl ⟨h.1, h.2⟩) rfl ⟨by decide, by decide⟩ (Nat.le_of_ble_eq_true rfl) rfl rfl ?_
  rintro _ _ ⟨rfl, rfl, hk0⟩
  refine J_st ([]) rfl ?_
  refine J_ws ((((((((wRg Z x t b p h r a e er ++ wSt Z e nt dgt cot lit pPt pHt pFt pTt pSt pDt pCt) ++ wSt Z a (nI N) dg co li pP pH pF pT pS pD pC) ++ wRk Z r h sk ss) ++ wBk Z h L (nI N) (nI u) sc nm bP bH op f1 f2 l0 l1 l2 l3 l4 l5) ++ wBk Z b Ld hcd lcd scd nmd bPd bHd opd f1d f2d l0d l1d l2d l3d l4d l5d) ++ wPa Z p kk b ti si nk br fl fa y0 y1 y2 y3 y4 y5) ++ wTk Z kk t ct kf0 sf0 vf0) ++ wTp Z t (nI tm) tb) (by simp only [List.append_assoc, List.append_nil, List.nil_append]) ?_
  obtain ⟨i, hi, rfl⟩ := hasB_ex hN hk0
  refine J_aload_n C iX8_endCurfew_5 rfl rfl ?_
  refine J_iload_n C iX8_endCurfew_6 rfl rfl ?_
  refine J_xV (As := [.int (nI i)]) (st := []) (w0 := ((((((((wRg Z x t b p h r a e er ++ wSt Z e nt dgt cot lit pPt pHt pFt pTt pSt pDt pCt) ++ wSt Z a (nI N) dg co li pP pH pF pT pS pD pC) ++ wRk Z r h sk ss) ++ wBk Z h L (nI N) (nI u) sc nm bP bH op f1 f2 l0 l1 l2 l3 l4 l5) ++ wBk Z b Ld hcd lcd scd nmd bPd bHd opd f1d f2d l0d l1d l2d l3d l4d l5d) ++ wPa Z p kk b ti si nk br fl fa y0 y1 y2 y3 y4 y5) ++ wTk Z kk t ct kf0 sf0 vf0) ++ wTp Z t (nI tm) tb)) (rc2 := 0) (rs2 := 0) C E hT iX8_endCurfew_7 lm_X8_131 yc_X8_checkCurfew yv_X8_checkCurfew (c_X8_checkCurfew hl (q := nI i)) (q0 := 0) rfl rfl rfl [] [] (by simp only [List.append_assoc, List.append_nil, List.nil_append]) rfl (fun E h => Or.inr <| ⟨h.1, hk0, h.2⟩) rfl ⟨by decide, by decide⟩ (Nat.le_of_ble_eq_true rfl) rfl rfl ?_
  rintro _ _ ⟨rfl, rfl, hk1⟩
  refine J_st ([]) rfl ?_
  refine J_ws ((((((((wRg Z x t b p h r a e er ++ wSt Z e nt dgt cot lit pPt pHt pFt pTt pSt pDt pCt) ++ wSt Z a (nI N) dg co li pP pH pF pT pS pD pC) ++ wRk Z r h sk ss) ++ wBk Z h L (nI N) (nI u) sc nm bP bH op f1 f2 l0 l1 l2 l3 l4 l5) ++ wBk Z b Ld hcd lcd scd nmd bPd bHd opd f1d f2d l0d l1d l2d l3d l4d l5d) ++ wPa Z p kk b ti si nk br fl fa y0 y1 y2 y3 y4 y5) ++ wTk Z kk t ct kf0 sf0 vf0) ++ wTp Z t (nI tm) tb) (by simp only [List.append_assoc, List.append_nil, List.nil_append]) ?_
  refine J_aload_n C iX8_endCurfew_10 rfl rfl ?_
  refine J_get (.ref (a 0)) 0 C iX8_endCurfew_11 gf_X8_52 rfl rfl ?_
  refine J_iload_n C iX8_endCurfew_14 rfl rfl ?_
  refine J_iconst (-1) C iX8_endCurfew_15 rfl ?_
  refine J_iconst (-1) C iX8_endCurfew_16 rfl ?_
  refine J_cVb (As := [.int (nI i), .int (-1), .int (-1)]) (st := []) (rc2 := 0) (rs2 := 0) C iX8_endCurfew_17 lm_X8_174 yc_X5_giveCurfew yv_X5_giveCurfew (c_X5_giveCurfew hN hi ok) (q0 := 0) rfl rfl rfl (wRg Z x t b p h r a e er ++ wSt Z e nt dgt cot lit pPt pHt pFt pTt pSt pDt pCt) (((((wRk Z r h sk ss ++ wBk Z h L (nI N) (nI u) sc nm bP bH op f1 f2 l0 l1 l2 l3 l4 l5) ++ wBk Z b Ld hcd lcd scd nmd bPd bHd opd f1d f2d l0d l1d l2d l3d l4d l5d) ++ wPa Z p kk b ti si nk br fl fa y0 y1 y2 y3 y4 y5) ++ wTk Z kk t ct kf0 sf0 vf0) ++ wTp Z t (nI tm) tb) rfl rfl ⟨by decide, by decide⟩ (Nat.le_of_ble_eq_true rfl) rfl rfl ?_
  rintro _ _ ⟨li_1, S_1, D_1, C_1, rfl, rfl, ok_1⟩
  refine J_st (.int (b2i (!(decide (pF i = (-1)) && decide (pT i = (-1))))) :: []) rfl ?_
  refine J_ws ((((((((wRg Z x t b p h r a e er ++ wSt Z e nt dgt cot lit pPt pHt pFt pTt pSt pDt pCt) ++ wSt Z a (nI N) dg co li_1 pP pH (upd pF i (-1)) (upd pT i (-1)) S_1 D_1 C_1) ++ wRk Z r h sk ss) ++ wBk Z h L (nI N) (nI u) sc nm bP bH op f1 f2 l0 l1 l2 l3 l4 l5) ++ wBk Z b Ld hcd lcd scd nmd bPd bHd opd f1d f2d l0d l1d l2d l3d l4d l5d) ++ wPa Z p kk b ti si nk br fl fa y0 y1 y2 y3 y4 y5) ++ wTk Z kk t ct kf0 sf0 vf0) ++ wTp Z t (nI tm) tb) rfl ?_
  refine J_pop C iX8_endCurfew_20 rfl ?_
  refine J_aload_n C iX8_endCurfew_21 rfl rfl ?_
  refine J_get (.ref (a 0)) 0 C iX8_endCurfew_22 gf_X8_52 rfl rfl ?_
  refine J_get (.int li_1) 9 C iX8_endCurfew_25 gf_X8_107 rfl rfl ?_
  exact J_x2m (J_iret C E iX8_endCurfew_28 ⟨li_1, S_1, D_1, C_1, rfl, by rw [nI_clamp (by omega)], by rw [nI_clamp (by omega)]; exact ok_1, hk0, hk1⟩)

set_option maxRecDepth 100000 in
set_option maxHeartbeats 4000000 in
theorem c_X8_build {Z : GZ} {l : Launch} (hl : l.stackTraces = false) {x t b p h r a e kk L Ld : Nat → Nat} {N u tm nk : Nat} {er dg co li sk scd hcd lcd sc ct ti si fl fa nt dgt cot lit y0 y1 y2 y3 y4 y5 : Int32} {br : Bool} {ss pP pH pF pT pS pD pC tb bP bH op f1 f2 l0 l1 l2 l3 l4 l5 bPd bHd opd f1d f2d l0d l1d l2d l3d l4d l5d sf0 pPt pHt pFt pTt pSt pDt pCt : Nat → Int32} {nm nmd vf0 : Nat → Int64} {kf0 : Nat → Option Nat} {q : Int32} {x_ : Int32} (hN : N ≤ 12) (ok : StOk N pP pH pF pT li pS pD pC)  : Cq Z l yX8_build cX8_build 4 (some .int) (rmM 8 2 12) [.ref (x 0), .int q, .int x_] ((((((((wRg Z x t b p h r a e er ++ wSt Z e nt dgt cot lit pPt pHt pFt pTt pSt pDt pCt) ++ wSt Z a (nI N) dg co li pP pH pF pT pS pD pC) ++ wRk Z r h sk ss) ++ wBk Z h L (nI N) (nI u) sc nm bP bH op f1 f2 l0 l1 l2 l3 l4 l5) ++ wBk Z b Ld hcd lcd scd nmd bPd bHd opd f1d f2d l0d l1d l2d l3d l4d l5d) ++ wPa Z p kk b ti si nk br fl fa y0 y1 y2 y3 y4 y5) ++ wTk Z kk t ct kf0 sf0 vf0) ++ wTp Z t (nI tm) tb) (fun v w => ∃ li2 S2 D2 C2, v = some (.int (stAt (nI N) q pH 0)) ∧ w = ((((((((wRg Z x t b p h r a e er ++ wSt Z e nt dgt cot lit pPt pHt pFt pTt pSt pDt pCt) ++ wSt Z a (nI N) dg co li2 pP (upd pH q.toNatClampNeg x_) pF pT S2 D2 C2) ++ wRk Z r h sk ss) ++ wBk Z h L (nI N) (nI u) sc nm bP bH op f1 f2 l0 l1 l2 l3 l4 l5) ++ wBk Z b Ld hcd lcd scd nmd bPd bHd opd f1d f2d l0d l1d l2d l3d l4d l5d) ++ wPa Z p kk b ti si nk br fl fa y0 y1 y2 y3 y4 y5) ++ wTk Z kk t ct kf0 sf0 vf0) ++ wTp Z t (nI tm) tb) ∧ StOk N pP (upd pH q.toNatClampNeg x_) pF pT li2 S2 D2 C2 ∧ hasB (nI N) q = true ∧ ¬ (x_ < 0 ∨ 30 < x_)) (fun E => (E = "java/lang/IndexOutOfBoundsException" ∧ ¬ hasB (nI N) q = true) ∨ (E = "java/lang/IllegalArgumentException" ∧ hasB (nI N) q = true ∧ (x_ < 0 ∨ 30 < x_))) := by
  refine Cq.ofJ (own := RX8) (nm := "build") (lv0 := [(0, .ref (x 0)), (1, .int q), (2, .int x_)]) (by decide) rfl rfl (Nat.le_of_ble_eq_true rfl) rfl (fun X hXl C E hT => ?_)
  subst hXl
  refine J_aload_n C iX8_build_0 rfl rfl ?_
  refine J_iload_n C iX8_build_1 rfl rfl ?_
  refine J_xV (As := [.int q]) (st := []) (w0 := ((((((((wRg Z x t b p h r a e er ++ wSt Z e nt dgt cot lit pPt pHt pFt pTt pSt pDt pCt) ++ wSt Z a (nI N) dg co li pP pH pF pT pS pD pC) ++ wRk Z r h sk ss) ++ wBk Z h L (nI N) (nI u) sc nm bP bH op f1 f2 l0 l1 l2 l3 l4 l5) ++ wBk Z b Ld hcd lcd scd nmd bPd bHd opd f1d f2d l0d l1d l2d l3d l4d l5d) ++ wPa Z p kk b ti si nk br fl fa y0 y1 y2 y3 y4 y5) ++ wTk Z kk t ct kf0 sf0 vf0) ++ wTp Z t (nI tm) tb)) (rc2 := 1) (rs2 := 6) C E hT iX8_build_2 lm_X8_119 yc_X8_checkHouse yv_X8_checkHouse (c_X8_checkHouse hl (q := q)) (q0 := 0) rfl rfl rfl [] [] (by simp only [List.append_assoc, List.append_nil, List.nil_append]) rfl (fun E h => Or.inl ⟨h.1, h.2⟩) rfl ⟨by decide, by decide⟩ (Nat.le_of_ble_eq_true rfl) rfl rfl ?_
  rintro _ _ ⟨rfl, rfl, hk0⟩
  refine J_st ([]) rfl ?_
  refine J_ws ((((((((wRg Z x t b p h r a e er ++ wSt Z e nt dgt cot lit pPt pHt pFt pTt pSt pDt pCt) ++ wSt Z a (nI N) dg co li pP pH pF pT pS pD pC) ++ wRk Z r h sk ss) ++ wBk Z h L (nI N) (nI u) sc nm bP bH op f1 f2 l0 l1 l2 l3 l4 l5) ++ wBk Z b Ld hcd lcd scd nmd bPd bHd opd f1d f2d l0d l1d l2d l3d l4d l5d) ++ wPa Z p kk b ti si nk br fl fa y0 y1 y2 y3 y4 y5) ++ wTk Z kk t ct kf0 sf0 vf0) ++ wTp Z t (nI tm) tb) (by simp only [List.append_assoc, List.append_nil, List.nil_append]) ?_
  obtain ⟨i, hi, rfl⟩ := hasB_ex hN hk0
  refine J_iload_n C iX8_build_5 rfl rfl ?_
  refine J_iflt 15 C iX8_build_6 rfl (fun h6 => ?_) (fun h6 => ?_)
  · exact J_throw (text := "no wall has this height") C hl E hT iX8_build_15 iX8_build_18 iX8_build_19 iX8_build_21 iX8_build_24 (tsg_in (i := 567) (by decide +kernel) rfl) (tsg_in (i := 61) (by decide +kernel) rfl) (by decide) hat_81 (by decide) ⟨by decide, by decide⟩ (by decide) (by decide) (Or.inr ⟨rfl, hk0, Or.inl h6⟩) rfl
  · refine J_iload_n C iX8_build_9 rfl rfl ?_
    refine J_bipush 30 C iX8_build_10 rfl ?_
    refine J_icmple 25 C iX8_build_12 rfl (fun h12 => ?_) (fun h12 => ?_)
    · refine J_aload_n C iX8_build_25 rfl rfl ?_
      refine J_get (.ref (a 0)) 0 C iX8_build_26 gf_X8_52 rfl rfl ?_
      refine J_iload_n C iX8_build_29 rfl rfl ?_
      refine J_cVb (As := [.int (nI i)]) (st := []) (rc2 := 1) (rs2 := 6) C iX8_build_30 lm_X8_125 yc_X5_height yv_X5_height c_X5_height (q0 := 0) rfl rfl rfl (wRg Z x t b p h r a e er ++ wSt Z e nt dgt cot lit pPt pHt pFt pTt pSt pDt pCt) (((((wRk Z r h sk ss ++ wBk Z h L (nI N) (nI u) sc nm bP bH op f1 f2 l0 l1 l2 l3 l4 l5) ++ wBk Z b Ld hcd lcd scd nmd bPd bHd opd f1d f2d l0d l1d l2d l3d l4d l5d) ++ wPa Z p kk b ti si nk br fl fa y0 y1 y2 y3 y4 y5) ++ wTk Z kk t ct kf0 sf0 vf0) ++ wTp Z t (nI tm) tb) rfl rfl ⟨by decide, by decide⟩ (Nat.le_of_ble_eq_true rfl) rfl rfl ?_
      rintro _ _ ⟨rfl, rfl⟩
      refine J_st (.int (stAt (nI N) (nI i) pH 0) :: []) rfl ?_
      refine J_ws ((((((((wRg Z x t b p h r a e er ++ wSt Z e nt dgt cot lit pPt pHt pFt pTt pSt pDt pCt) ++ wSt Z a (nI N) dg co li pP pH pF pT pS pD pC) ++ wRk Z r h sk ss) ++ wBk Z h L (nI N) (nI u) sc nm bP bH op f1 f2 l0 l1 l2 l3 l4 l5) ++ wBk Z b Ld hcd lcd scd nmd bPd bHd opd f1d f2d l0d l1d l2d l3d l4d l5d) ++ wPa Z p kk b ti si nk br fl fa y0 y1 y2 y3 y4 y5) ++ wTk Z kk t ct kf0 sf0 vf0) ++ wTp Z t (nI tm) tb) rfl ?_
      refine J_istore_n [(3, .int (stAt (nI N) (nI i) pH 0)), (0, .ref (x 0)), (1, .int (nI i)), (2, .int x_)] C iX8_build_33 rfl (by decide) rfl ?_
      refine J_aload_n C iX8_build_34 rfl rfl ?_
      refine J_get (.ref (a 0)) 0 C iX8_build_35 gf_X8_52 rfl rfl ?_
      refine J_iload_n C iX8_build_38 rfl rfl ?_
      refine J_iload_n C iX8_build_39 rfl rfl ?_
      refine J_cVb (As := [.int (nI i), .int x_]) (st := []) (rc2 := 1) (rs2 := 6) C iX8_build_40 lm_X8_180 yc_X5_giveHeight yv_X5_giveHeight (c_X5_giveHeight hN hi ok) (q0 := 0) rfl rfl rfl (wRg Z x t b p h r a e er ++ wSt Z e nt dgt cot lit pPt pHt pFt pTt pSt pDt pCt) (((((wRk Z r h sk ss ++ wBk Z h L (nI N) (nI u) sc nm bP bH op f1 f2 l0 l1 l2 l3 l4 l5) ++ wBk Z b Ld hcd lcd scd nmd bPd bHd opd f1d f2d l0d l1d l2d l3d l4d l5d) ++ wPa Z p kk b ti si nk br fl fa y0 y1 y2 y3 y4 y5) ++ wTk Z kk t ct kf0 sf0 vf0) ++ wTp Z t (nI tm) tb) rfl rfl ⟨by decide, by decide⟩ (Nat.le_of_ble_eq_true rfl) rfl rfl ?_
      rintro _ _ ⟨li_1, S_1, D_1, C_1, rfl, rfl, ok_1⟩
      refine J_st (.int (b2i (!decide (pH i = x_))) :: []) rfl ?_
      refine J_ws ((((((((wRg Z x t b p h r a e er ++ wSt Z e nt dgt cot lit pPt pHt pFt pTt pSt pDt pCt) ++ wSt Z a (nI N) dg co li_1 pP (upd pH i x_) pF pT S_1 D_1 C_1) ++ wRk Z r h sk ss) ++ wBk Z h L (nI N) (nI u) sc nm bP bH op f1 f2 l0 l1 l2 l3 l4 l5) ++ wBk Z b Ld hcd lcd scd nmd bPd bHd opd f1d f2d l0d l1d l2d l3d l4d l5d) ++ wPa Z p kk b ti si nk br fl fa y0 y1 y2 y3 y4 y5) ++ wTk Z kk t ct kf0 sf0 vf0) ++ wTp Z t (nI tm) tb) rfl ?_
      refine J_pop C iX8_build_43 rfl ?_
      refine J_iload_n C iX8_build_44 rfl rfl ?_
      exact J_x2m (J_iret C E iX8_build_45 ⟨li_1, S_1, D_1, C_1, rfl, by rw [nI_clamp (by omega)], by rw [nI_clamp (by omega)]; exact ok_1, hk0, not_or.mpr ⟨h6, Int32.not_lt.mpr h12⟩⟩)
    · exact J_throw (text := "no wall has this height") C hl E hT iX8_build_15 iX8_build_18 iX8_build_19 iX8_build_21 iX8_build_24 (tsg_in (i := 567) (by decide +kernel) rfl) (tsg_in (i := 61) (by decide +kernel) rfl) (by decide) hat_81 (by decide) ⟨by decide, by decide⟩ (by decide) (by decide) (Or.inr ⟨rfl, hk0, Or.inr (Int32.not_le.mp h12)⟩) rfl

set_option maxRecDepth 100000 in
set_option maxHeartbeats 4000000 in
theorem c_X8_move {Z : GZ} {l : Launch} (hl : l.stackTraces = false) {x t b p h r a e kk L Ld : Nat → Nat} {N u tm nk : Nat} {er dg co li sk scd hcd lcd sc ct ti si fl fa nt dgt cot lit y0 y1 y2 y3 y4 y5 : Int32} {br : Bool} {ss pP pH pF pT pS pD pC tb bP bH op f1 f2 l0 l1 l2 l3 l4 l5 bPd bHd opd f1d f2d l0d l1d l2d l3d l4d l5d sf0 pPt pHt pFt pTt pSt pDt pCt : Nat → Int32} {nm nmd vf0 : Nat → Int64} {kf0 : Nat → Option Nat} {q : Int32} {x_ : Int32} (hN : N ≤ 12) (ok : StOk N pP pH pF pT li pS pD pC)  : Cq Z l yX8_move cX8_move 4 (some .int) (rmM 8 3 18) [.ref (x 0), .int q, .int x_] ((((((((wRg Z x t b p h r a e er ++ wSt Z e nt dgt cot lit pPt pHt pFt pTt pSt pDt pCt) ++ wSt Z a (nI N) dg co li pP pH pF pT pS pD pC) ++ wRk Z r h sk ss) ++ wBk Z h L (nI N) (nI u) sc nm bP bH op f1 f2 l0 l1 l2 l3 l4 l5) ++ wBk Z b Ld hcd lcd scd nmd bPd bHd opd f1d f2d l0d l1d l2d l3d l4d l5d) ++ wPa Z p kk b ti si nk br fl fa y0 y1 y2 y3 y4 y5) ++ wTk Z kk t ct kf0 sf0 vf0) ++ wTp Z t (nI tm) tb) (fun v w => ∃ li2 S2 D2 C2, v = some (.int (stAt (nI N) q pP (-1))) ∧ w = ((((((((wRg Z x t b p h r a e er ++ wSt Z e nt dgt cot lit pPt pHt pFt pTt pSt pDt pCt) ++ wSt Z a (nI N) dg co li2 (upd pP q.toNatClampNeg x_) pH pF pT S2 D2 C2) ++ wRk Z r h sk ss) ++ wBk Z h L (nI N) (nI u) sc nm bP bH op f1 f2 l0 l1 l2 l3 l4 l5) ++ wBk Z b Ld hcd lcd scd nmd bPd bHd opd f1d f2d l0d l1d l2d l3d l4d l5d) ++ wPa Z p kk b ti si nk br fl fa y0 y1 y2 y3 y4 y5) ++ wTk Z kk t ct kf0 sf0 vf0) ++ wTp Z t (nI tm) tb) ∧ StOk N (upd pP q.toNatClampNeg x_) pH pF pT li2 S2 D2 C2 ∧ hasB (nI N) q = true ∧ ¬ (x_ < 0 ∨ 99 < x_) ∧ ¬ (∃ j, j < N ∧ ¬ nI j = q ∧ stAt (nI N) (nI j) pP (-1) = x_)) (fun E => (E = "java/lang/IndexOutOfBoundsException" ∧ ¬ hasB (nI N) q = true) ∨ (E = "java/lang/IllegalArgumentException" ∧ hasB (nI N) q = true ∧ (x_ < 0 ∨ 99 < x_)) ∨ (E = "java/lang/IllegalStateException" ∧ hasB (nI N) q = true ∧ ¬ (x_ < 0 ∨ 99 < x_) ∧ (∃ j, j < N ∧ ¬ nI j = q ∧ stAt (nI N) (nI j) pP (-1) = x_))) := by
  refine Cq.ofJ (own := RX8) (nm := "move") (lv0 := [(0, .ref (x 0)), (1, .int q), (2, .int x_)]) (by decide) rfl rfl (Nat.le_of_ble_eq_true rfl) rfl (fun X hXl C E hT => ?_)
  subst hXl
  refine J_aload_n C iX8_move_0 rfl rfl ?_
  refine J_iload_n C iX8_move_1 rfl rfl ?_
  refine J_xV (As := [.int q]) (st := []) (w0 := ((((((((wRg Z x t b p h r a e er ++ wSt Z e nt dgt cot lit pPt pHt pFt pTt pSt pDt pCt) ++ wSt Z a (nI N) dg co li pP pH pF pT pS pD pC) ++ wRk Z r h sk ss) ++ wBk Z h L (nI N) (nI u) sc nm bP bH op f1 f2 l0 l1 l2 l3 l4 l5) ++ wBk Z b Ld hcd lcd scd nmd bPd bHd opd f1d f2d l0d l1d l2d l3d l4d l5d) ++ wPa Z p kk b ti si nk br fl fa y0 y1 y2 y3 y4 y5) ++ wTk Z kk t ct kf0 sf0 vf0) ++ wTp Z t (nI tm) tb)) (rc2 := 2) (rs2 := 12) C E hT iX8_move_2 lm_X8_119 yc_X8_checkHouse yv_X8_checkHouse (c_X8_checkHouse hl (q := q)) (q0 := 0) rfl rfl rfl [] [] (by simp only [List.append_assoc, List.append_nil, List.nil_append]) rfl (fun E h => Or.inl ⟨h.1, h.2⟩) rfl ⟨by decide, by decide⟩ (Nat.le_of_ble_eq_true rfl) rfl rfl ?_
  rintro _ _ ⟨rfl, rfl, hk0⟩
  refine J_st ([]) rfl ?_
  refine J_ws ((((((((wRg Z x t b p h r a e er ++ wSt Z e nt dgt cot lit pPt pHt pFt pTt pSt pDt pCt) ++ wSt Z a (nI N) dg co li pP pH pF pT pS pD pC) ++ wRk Z r h sk ss) ++ wBk Z h L (nI N) (nI u) sc nm bP bH op f1 f2 l0 l1 l2 l3 l4 l5) ++ wBk Z b Ld hcd lcd scd nmd bPd bHd opd f1d f2d l0d l1d l2d l3d l4d l5d) ++ wPa Z p kk b ti si nk br fl fa y0 y1 y2 y3 y4 y5) ++ wTk Z kk t ct kf0 sf0 vf0) ++ wTp Z t (nI tm) tb) (by simp only [List.append_assoc, List.append_nil, List.nil_append]) ?_
  obtain ⟨i, hi, rfl⟩ := hasB_ex hN hk0
  refine J_iload_n C iX8_move_5 rfl rfl ?_
  refine J_iflt 15 C iX8_move_6 rfl (fun h6 => ?_) (fun h6 => ?_)
  · exact J_throw (text := "the street has no such place") C hl E hT iX8_move_15 iX8_move_18 iX8_move_19 iX8_move_21 iX8_move_24 (tsg_in (i := 567) (by decide +kernel) rfl) (tsg_in (i := 61) (by decide +kernel) rfl) (by decide) hat_81 (by decide) ⟨by decide, by decide⟩ (by decide) (by decide) (Or.inr (Or.inl ⟨rfl, hk0, Or.inl h6⟩)) rfl
  · refine J_iload_n C iX8_move_9 rfl rfl ?_
    refine J_bipush 99 C iX8_move_10 rfl ?_
    refine J_icmple 25 C iX8_move_12 rfl (fun h12 => ?_) (fun h12 => ?_)
    · refine J_iconst 0 C iX8_move_25 rfl ?_
      refine J_istore_n [(3, .int 0), (0, .ref (x 0)), (1, .int (nI i)), (2, .int x_)] C iX8_move_26 rfl (by decide) rfl ?_
      refine J_lvm [(3, .int 0), (0, .ref (x 0)), (1, .int (nI i)), (2, .int x_)] rfl ?_
      refine J_forP (fun k => [(3, .int (nI k)), (0, .ref (x 0)), (1, .int (nI i)), (2, .int x_)]) (fun k => ((((((((wRg Z x t b p h r a e er ++ wSt Z e nt dgt cot lit pPt pHt pFt pTt pSt pDt pCt) ++ wSt Z a (nI N) dg co li pP pH pF pT pS pD pC) ++ wRk Z r h sk ss) ++ wBk Z h L (nI N) (nI u) sc nm bP bH op f1 f2 l0 l1 l2 l3 l4 l5) ++ wBk Z b Ld hcd lcd scd nmd bPd bHd opd f1d f2d l0d l1d l2d l3d l4d l5d) ++ wPa Z p kk b ti si nk br fl fa y0 y1 y2 y3 y4 y5) ++ wTk Z kk t ct kf0 sf0 vf0) ++ wTp Z t (nI tm) tb)) (fun k => ∀ j, j < k → ¬ (¬ nI j = nI i ∧ stAt (nI N) (nI j) pP (-1) = x_)) N 0 (by omega) (fun _ h => absurd h (Nat.not_lt_zero _)) (fun hI => ?_) (fun k hkl hk hI ih => ?_)
      · refine J_iload_n C iX8_move_27 rfl rfl ?_
        refine J_aload_n C iX8_move_28 rfl rfl ?_
        refine J_get (.ref (a 0)) 0 C iX8_move_29 gf_X8_52 rfl rfl ?_
        refine J_get (.int (nI N)) 9 C iX8_move_32 gf_X8_95 rfl rfl ?_
        refine J_icmpge 71 C iX8_move_35 rfl (fun h35 => ?_) (fun h35 => absurd (nI_le (a := N) (b := N) (by omega) (by omega)) h35)
        refine J_aload_n C iX8_move_71 rfl rfl ?_
        refine J_get (.ref (a 0)) 0 C iX8_move_72 gf_X8_52 rfl rfl ?_
        refine J_iload_n C iX8_move_75 rfl rfl ?_
        refine J_cVb (As := [.int (nI i)]) (st := []) (rc2 := 2) (rs2 := 12) C iX8_move_76 lm_X8_122 yc_X5_place yv_X5_place c_X5_place (q0 := 0) rfl rfl rfl (wRg Z x t b p h r a e er ++ wSt Z e nt dgt cot lit pPt pHt pFt pTt pSt pDt pCt) (((((wRk Z r h sk ss ++ wBk Z h L (nI N) (nI u) sc nm bP bH op f1 f2 l0 l1 l2 l3 l4 l5) ++ wBk Z b Ld hcd lcd scd nmd bPd bHd opd f1d f2d l0d l1d l2d l3d l4d l5d) ++ wPa Z p kk b ti si nk br fl fa y0 y1 y2 y3 y4 y5) ++ wTk Z kk t ct kf0 sf0 vf0) ++ wTp Z t (nI tm) tb) rfl rfl ⟨by decide, by decide⟩ (Nat.le_of_ble_eq_true rfl) rfl rfl ?_
        rintro _ _ ⟨rfl, rfl⟩
        refine J_st (.int (stAt (nI N) (nI i) pP (-1)) :: []) rfl ?_
        refine J_ws ((((((((wRg Z x t b p h r a e er ++ wSt Z e nt dgt cot lit pPt pHt pFt pTt pSt pDt pCt) ++ wSt Z a (nI N) dg co li pP pH pF pT pS pD pC) ++ wRk Z r h sk ss) ++ wBk Z h L (nI N) (nI u) sc nm bP bH op f1 f2 l0 l1 l2 l3 l4 l5) ++ wBk Z b Ld hcd lcd scd nmd bPd bHd opd f1d f2d l0d l1d l2d l3d l4d l5d) ++ wPa Z p kk b ti si nk br fl fa y0 y1 y2 y3 y4 y5) ++ wTk Z kk t ct kf0 sf0 vf0) ++ wTp Z t (nI tm) tb) rfl ?_
        refine J_istore_n [(3, .int (stAt (nI N) (nI i) pP (-1))), (0, .ref (x 0)), (1, .int (nI i)), (2, .int x_)] C iX8_move_79 rfl (by decide) rfl ?_
        refine J_aload_n C iX8_move_80 rfl rfl ?_
        refine J_get (.ref (a 0)) 0 C iX8_move_81 gf_X8_52 rfl rfl ?_
        refine J_iload_n C iX8_move_84 rfl rfl ?_
        refine J_iload_n C iX8_move_85 rfl rfl ?_
        refine J_cVb (As := [.int (nI i), .int x_]) (st := []) (rc2 := 2) (rs2 := 12) C iX8_move_86 lm_X8_187 yc_X5_givePlace yv_X5_givePlace (c_X5_givePlace hN hi ok) (q0 := 0) rfl rfl rfl (wRg Z x t b p h r a e er ++ wSt Z e nt dgt cot lit pPt pHt pFt pTt pSt pDt pCt) (((((wRk Z r h sk ss ++ wBk Z h L (nI N) (nI u) sc nm bP bH op f1 f2 l0 l1 l2 l3 l4 l5) ++ wBk Z b Ld hcd lcd scd nmd bPd bHd opd f1d f2d l0d l1d l2d l3d l4d l5d) ++ wPa Z p kk b ti si nk br fl fa y0 y1 y2 y3 y4 y5) ++ wTk Z kk t ct kf0 sf0 vf0) ++ wTp Z t (nI tm) tb) rfl rfl ⟨by decide, by decide⟩ (Nat.le_of_ble_eq_true rfl) rfl rfl ?_
        rintro _ _ ⟨li_1, S_1, D_1, C_1, rfl, rfl, ok_1⟩
        refine J_st ([]) rfl ?_
        refine J_ws ((((((((wRg Z x t b p h r a e er ++ wSt Z e nt dgt cot lit pPt pHt pFt pTt pSt pDt pCt) ++ wSt Z a (nI N) dg co li_1 (upd pP i x_) pH pF pT S_1 D_1 C_1) ++ wRk Z r h sk ss) ++ wBk Z h L (nI N) (nI u) sc nm bP bH op f1 f2 l0 l1 l2 l3 l4 l5) ++ wBk Z b Ld hcd lcd scd nmd bPd bHd opd f1d f2d l0d l1d l2d l3d l4d l5d) ++ wPa Z p kk b ti si nk br fl fa y0 y1 y2 y3 y4 y5) ++ wTk Z kk t ct kf0 sf0 vf0) ++ wTp Z t (nI tm) tb) rfl ?_
        refine J_iload_n C iX8_move_89 rfl rfl ?_
        exact J_x2m (J_iret C E iX8_move_90 ⟨li_1, S_1, D_1, C_1, rfl, by rw [nI_clamp (by omega)], by rw [nI_clamp (by omega)]; exact ok_1, hk0, not_or.mpr ⟨h6, Int32.not_lt.mpr h12⟩, (fun ⟨j, e1, e2⟩ => hI j e1 e2)⟩)
      · refine J_iload_n C iX8_move_27 rfl rfl ?_
        refine J_aload_n C iX8_move_28 rfl rfl ?_
        refine J_get (.ref (a 0)) 0 C iX8_move_29 gf_X8_52 rfl rfl ?_
        refine J_get (.int (nI N)) 9 C iX8_move_32 gf_X8_95 rfl rfl ?_
        refine J_icmpge 71 C iX8_move_35 rfl (fun h35 => absurd h35 (nI_ge (a := k) (b := N) (by omega) (by omega))) (fun h35 => ?_)
        refine J_iload_n C iX8_move_38 rfl rfl ?_
        refine J_iload_n C iX8_move_39 rfl rfl ?_
        refine J_icmpeq 65 C iX8_move_40 rfl (fun h40 => ?_) (fun h40 => ?_)
        · refine J_iinc ((nI k) + 1) [(3, .int ((nI k) + 1)), (0, .ref (x 0)), (1, .int (nI i)), (2, .int x_)] C iX8_move_65 rfl rfl (by decide) rfl ?_
          rw [show (nI k) + 1 = nI (k + 1) from nI_add _ _]
          refine J_goto 27 C iX8_move_68 rfl ?_
          refine J_lvm [(3, .int (nI (k + 1))), (0, .ref (x 0)), (1, .int (nI i)), (2, .int x_)] rfl ?_
          exact ih (lt_s hI (fun e9 => e9.1 h40))
        · refine J_aload_n C iX8_move_43 rfl rfl ?_
          refine J_get (.ref (a 0)) 0 C iX8_move_44 gf_X8_52 rfl rfl ?_
          refine J_iload_n C iX8_move_47 rfl rfl ?_
          refine J_cVb (As := [.int (nI k)]) (st := []) (rc2 := 2) (rs2 := 12) C iX8_move_48 lm_X8_122 yc_X5_place yv_X5_place c_X5_place (q0 := 0) rfl rfl rfl (wRg Z x t b p h r a e er ++ wSt Z e nt dgt cot lit pPt pHt pFt pTt pSt pDt pCt) (((((wRk Z r h sk ss ++ wBk Z h L (nI N) (nI u) sc nm bP bH op f1 f2 l0 l1 l2 l3 l4 l5) ++ wBk Z b Ld hcd lcd scd nmd bPd bHd opd f1d f2d l0d l1d l2d l3d l4d l5d) ++ wPa Z p kk b ti si nk br fl fa y0 y1 y2 y3 y4 y5) ++ wTk Z kk t ct kf0 sf0 vf0) ++ wTp Z t (nI tm) tb) rfl rfl ⟨by decide, by decide⟩ (Nat.le_of_ble_eq_true rfl) rfl rfl ?_
          rintro _ _ ⟨rfl, rfl⟩
          refine J_st (.int (stAt (nI N) (nI k) pP (-1)) :: []) rfl ?_
          refine J_ws ((((((((wRg Z x t b p h r a e er ++ wSt Z e nt dgt cot lit pPt pHt pFt pTt pSt pDt pCt) ++ wSt Z a (nI N) dg co li pP pH pF pT pS pD pC) ++ wRk Z r h sk ss) ++ wBk Z h L (nI N) (nI u) sc nm bP bH op f1 f2 l0 l1 l2 l3 l4 l5) ++ wBk Z b Ld hcd lcd scd nmd bPd bHd opd f1d f2d l0d l1d l2d l3d l4d l5d) ++ wPa Z p kk b ti si nk br fl fa y0 y1 y2 y3 y4 y5) ++ wTk Z kk t ct kf0 sf0 vf0) ++ wTp Z t (nI tm) tb) rfl ?_
          refine J_iload_n C iX8_move_51 rfl rfl ?_
          refine J_icmpne 65 C iX8_move_52 rfl (fun h52 => ?_) (fun h52 => ?_)
          · refine J_iinc ((nI k) + 1) [(3, .int ((nI k) + 1)), (0, .ref (x 0)), (1, .int (nI i)), (2, .int x_)] C iX8_move_65 rfl rfl (by decide) rfl ?_
            rw [show (nI k) + 1 = nI (k + 1) from nI_add _ _]
            refine J_goto 27 C iX8_move_68 rfl ?_
            refine J_lvm [(3, .int (nI (k + 1))), (0, .ref (x 0)), (1, .int (nI i)), (2, .int x_)] rfl ?_
            exact ih (lt_s hI (fun e9 => h52 e9.2))
          · exact J_throw (text := "another house stands there") C hl E hT iX8_move_55 iX8_move_58 iX8_move_59 iX8_move_61 iX8_move_64 (tsg_in (i := 359) (by decide +kernel) rfl) (tsg_in (i := 60) (by decide +kernel) rfl) (by decide) hat_70 (by decide) ⟨by decide, by decide⟩ (by decide) (by decide) (Or.inr (Or.inr ⟨rfl, hk0, not_or.mpr ⟨h6, Int32.not_lt.mpr h12⟩, k, hk, h40, h52⟩)) rfl
    · exact J_throw (text := "the street has no such place") C hl E hT iX8_move_15 iX8_move_18 iX8_move_19 iX8_move_21 iX8_move_24 (tsg_in (i := 567) (by decide +kernel) rfl) (tsg_in (i := 61) (by decide +kernel) rfl) (by decide) hat_81 (by decide) ⟨by decide, by decide⟩ (by decide) (by decide) (Or.inr (Or.inl ⟨rfl, hk0, Or.inr (Int32.not_le.mp h12)⟩)) rfl

set_option maxRecDepth 100000 in
set_option maxHeartbeats 4000000 in
theorem c_X8_feed {Z : GZ} {l : Launch} (hl : l.stackTraces = false) {x t b p h r a e kk L Ld : Nat → Nat} {N u tm nk : Nat} {er dg co li sk scd hcd lcd sc ct ti si fl fa nt dgt cot lit y0 y1 y2 y3 y4 y5 : Int32} {br : Bool} {ss pP pH pF pT pS pD pC tb bP bH op f1 f2 l0 l1 l2 l3 l4 l5 bPd bHd opd f1d f2d l0d l1d l2d l3d l4d l5d sf0 pPt pHt pFt pTt pSt pDt pCt : Nat → Int32} {nm nmd vf0 : Nat → Int64} {kf0 : Nat → Option Nat} {i0 i1 i2 i3 i4 : Int32} (htm : tm ≤ 2000)  : Cq Z l yX8_feed cX8_feed 6 (some .int) (rmM 8 1 6) [.ref (x 0), .int i0, .int i1, .int i2, .int i3, .int i4] ((((((((wRg Z x t b p h r a e er ++ wSt Z e nt dgt cot lit pPt pHt pFt pTt pSt pDt pCt) ++ wSt Z a (nI N) dg co li pP pH pF pT pS pD pC) ++ wRk Z r h sk ss) ++ wBk Z h L (nI N) (nI u) sc nm bP bH op f1 f2 l0 l1 l2 l3 l4 l5) ++ wBk Z b Ld hcd lcd scd nmd bPd bHd opd f1d f2d l0d l1d l2d l3d l4d l5d) ++ wPa Z p kk b ti si nk br fl fa y0 y1 y2 y3 y4 y5) ++ wTk Z kk t ct kf0 sf0 vf0) ++ wTp Z t (nI tm) tb) (fun v w => v = some (.int (nI (tm + 20))) ∧ w = ((((((((wRg Z x t b p h r a e er ++ wSt Z e nt dgt cot lit pPt pHt pFt pTt pSt pDt pCt) ++ wSt Z a (nI N) dg co li pP pH pF pT pS pD pC) ++ wRk Z r h sk ss) ++ wBk Z h L (nI N) (nI u) sc nm bP bH op f1 f2 l0 l1 l2 l3 l4 l5) ++ wBk Z b Ld hcd lcd scd nmd bPd bHd opd f1d f2d l0d l1d l2d l3d l4d l5d) ++ wPa Z p kk b ti si nk br fl fa y0 y1 y2 y3 y4 y5) ++ wTk Z kk t ct kf0 sf0 vf0) ++ wTp Z t (nI (tm + 20)) (apF (apF (apF (apF (apF tb tm i0) (tm + 4) i1) (tm + 8) i2) (tm + 12) i3) (tm + 16) i4)) ∧ tm ≤ 1980) (fun E => E = "java/lang/IllegalStateException" ∧ ¬ tm ≤ 1980) := by
  refine Cq.ofJ (own := RX8) (nm := "feed") (lv0 := [(0, .ref (x 0)), (1, .int i0), (2, .int i1), (3, .int i2), (4, .int i3), (5, .int i4)]) (by decide) rfl rfl (Nat.le_of_ble_eq_true rfl) rfl (fun X hXl C E hT => ?_)
  subst hXl
  refine J_aload_n C iX8_feed_0 rfl rfl ?_
  refine J_get (.ref (t 0)) 0 C iX8_feed_1 gf_X8_12 rfl rfl ?_
  refine J_get (.int (nI tm)) 73 C iX8_feed_4 gf_X8_63 rfl rfl ?_
  refine J_sipush 1980 C iX8_feed_7 rfl ?_
  by_cases hs10 : tm ≤ 1980
  · refine J_icmple 23 C iX8_feed_10 rfl (fun h10 => ?_) (fun h10 => absurd (nI_le (a := tm) (b := 1980) (by omega) (by omega)) h10)
    refine J_aload_n C iX8_feed_23 rfl rfl ?_
    refine J_get (.ref (t 0)) 0 C iX8_feed_24 gf_X8_12 rfl rfl ?_
    refine J_iload_n C iX8_feed_27 rfl rfl ?_
    refine J_cVb (As := [.int i0]) (st := []) (rc2 := (rmM 8 1 6).cells) (rs2 := (rmM 8 1 6).slots) C iX8_feed_28 lm_X8_73 yc_X6_append yv_X6_append (c_X6_append (m := tm) (by omega)) (q0 := 0) rfl rfl rfl (((((((wRg Z x t b p h r a e er ++ wSt Z e nt dgt cot lit pPt pHt pFt pTt pSt pDt pCt) ++ wSt Z a (nI N) dg co li pP pH pF pT pS pD pC) ++ wRk Z r h sk ss) ++ wBk Z h L (nI N) (nI u) sc nm bP bH op f1 f2 l0 l1 l2 l3 l4 l5) ++ wBk Z b Ld hcd lcd scd nmd bPd bHd opd f1d f2d l0d l1d l2d l3d l4d l5d) ++ wPa Z p kk b ti si nk br fl fa y0 y1 y2 y3 y4 y5) ++ wTk Z kk t ct kf0 sf0 vf0) [] rfl rfl ⟨by decide, by decide⟩ (Nat.le_of_ble_eq_true rfl) rfl rfl ?_
    rintro _ _ ⟨rfl, rfl⟩
    refine J_st ([]) rfl ?_
    refine J_ws ((((((((wRg Z x t b p h r a e er ++ wSt Z e nt dgt cot lit pPt pHt pFt pTt pSt pDt pCt) ++ wSt Z a (nI N) dg co li pP pH pF pT pS pD pC) ++ wRk Z r h sk ss) ++ wBk Z h L (nI N) (nI u) sc nm bP bH op f1 f2 l0 l1 l2 l3 l4 l5) ++ wBk Z b Ld hcd lcd scd nmd bPd bHd opd f1d f2d l0d l1d l2d l3d l4d l5d) ++ wPa Z p kk b ti si nk br fl fa y0 y1 y2 y3 y4 y5) ++ wTk Z kk t ct kf0 sf0 vf0) ++ wTp Z t (nI (tm + 1 + 1 + 1 + 1)) (apF tb tm i0)) rfl ?_
    refine J_aload_n C iX8_feed_31 rfl rfl ?_
    refine J_get (.ref (t 0)) 0 C iX8_feed_32 gf_X8_12 rfl rfl ?_
    refine J_iload_n C iX8_feed_35 rfl rfl ?_
    refine J_cVb (As := [.int i1]) (st := []) (rc2 := (rmM 8 1 6).cells) (rs2 := (rmM 8 1 6).slots) C iX8_feed_36 lm_X8_73 yc_X6_append yv_X6_append (c_X6_append (m := (tm + 1 + 1 + 1 + 1)) (by omega)) (q0 := 0) rfl rfl rfl (((((((wRg Z x t b p h r a e er ++ wSt Z e nt dgt cot lit pPt pHt pFt pTt pSt pDt pCt) ++ wSt Z a (nI N) dg co li pP pH pF pT pS pD pC) ++ wRk Z r h sk ss) ++ wBk Z h L (nI N) (nI u) sc nm bP bH op f1 f2 l0 l1 l2 l3 l4 l5) ++ wBk Z b Ld hcd lcd scd nmd bPd bHd opd f1d f2d l0d l1d l2d l3d l4d l5d) ++ wPa Z p kk b ti si nk br fl fa y0 y1 y2 y3 y4 y5) ++ wTk Z kk t ct kf0 sf0 vf0) [] rfl rfl ⟨by decide, by decide⟩ (Nat.le_of_ble_eq_true rfl) rfl rfl ?_
    rintro _ _ ⟨rfl, rfl⟩
    refine J_st ([]) rfl ?_
    refine J_ws ((((((((wRg Z x t b p h r a e er ++ wSt Z e nt dgt cot lit pPt pHt pFt pTt pSt pDt pCt) ++ wSt Z a (nI N) dg co li pP pH pF pT pS pD pC) ++ wRk Z r h sk ss) ++ wBk Z h L (nI N) (nI u) sc nm bP bH op f1 f2 l0 l1 l2 l3 l4 l5) ++ wBk Z b Ld hcd lcd scd nmd bPd bHd opd f1d f2d l0d l1d l2d l3d l4d l5d) ++ wPa Z p kk b ti si nk br fl fa y0 y1 y2 y3 y4 y5) ++ wTk Z kk t ct kf0 sf0 vf0) ++ wTp Z t (nI ((tm + 1 + 1 + 1 + 1) + 1 + 1 + 1 + 1)) (apF (apF tb tm i0) (tm + 1 + 1 + 1 + 1) i1)) rfl ?_
    refine J_aload_n C iX8_feed_39 rfl rfl ?_
    refine J_get (.ref (t 0)) 0 C iX8_feed_40 gf_X8_12 rfl rfl ?_
    refine J_iload_n C iX8_feed_43 rfl rfl ?_
    refine J_cVb (As := [.int i2]) (st := []) (rc2 := (rmM 8 1 6).cells) (rs2 := (rmM 8 1 6).slots) C iX8_feed_44 lm_X8_73 yc_X6_append yv_X6_append (c_X6_append (m := ((tm + 1 + 1 + 1 + 1) + 1 + 1 + 1 + 1)) (by omega)) (q0 := 0) rfl rfl rfl (((((((wRg Z x t b p h r a e er ++ wSt Z e nt dgt cot lit pPt pHt pFt pTt pSt pDt pCt) ++ wSt Z a (nI N) dg co li pP pH pF pT pS pD pC) ++ wRk Z r h sk ss) ++ wBk Z h L (nI N) (nI u) sc nm bP bH op f1 f2 l0 l1 l2 l3 l4 l5) ++ wBk Z b Ld hcd lcd scd nmd bPd bHd opd f1d f2d l0d l1d l2d l3d l4d l5d) ++ wPa Z p kk b ti si nk br fl fa y0 y1 y2 y3 y4 y5) ++ wTk Z kk t ct kf0 sf0 vf0) [] rfl rfl ⟨by decide, by decide⟩ (Nat.le_of_ble_eq_true rfl) rfl rfl ?_
    rintro _ _ ⟨rfl, rfl⟩
    refine J_st ([]) rfl ?_
    refine J_ws ((((((((wRg Z x t b p h r a e er ++ wSt Z e nt dgt cot lit pPt pHt pFt pTt pSt pDt pCt) ++ wSt Z a (nI N) dg co li pP pH pF pT pS pD pC) ++ wRk Z r h sk ss) ++ wBk Z h L (nI N) (nI u) sc nm bP bH op f1 f2 l0 l1 l2 l3 l4 l5) ++ wBk Z b Ld hcd lcd scd nmd bPd bHd opd f1d f2d l0d l1d l2d l3d l4d l5d) ++ wPa Z p kk b ti si nk br fl fa y0 y1 y2 y3 y4 y5) ++ wTk Z kk t ct kf0 sf0 vf0) ++ wTp Z t (nI (((tm + 1 + 1 + 1 + 1) + 1 + 1 + 1 + 1) + 1 + 1 + 1 + 1)) (apF (apF (apF tb tm i0) (tm + 1 + 1 + 1 + 1) i1) ((tm + 1 + 1 + 1 + 1) + 1 + 1 + 1 + 1) i2)) rfl ?_
    refine J_aload_n C iX8_feed_47 rfl rfl ?_
    refine J_get (.ref (t 0)) 0 C iX8_feed_48 gf_X8_12 rfl rfl ?_
    refine J_iload C iX8_feed_51 rfl ?_
    refine J_cVb (As := [.int i3]) (st := []) (rc2 := (rmM 8 1 6).cells) (rs2 := (rmM 8 1 6).slots) C iX8_feed_53 lm_X8_73 yc_X6_append yv_X6_append (c_X6_append (m := (((tm + 1 + 1 + 1 + 1) + 1 + 1 + 1 + 1) + 1 + 1 + 1 + 1)) (by omega)) (q0 := 0) rfl rfl rfl (((((((wRg Z x t b p h r a e er ++ wSt Z e nt dgt cot lit pPt pHt pFt pTt pSt pDt pCt) ++ wSt Z a (nI N) dg co li pP pH pF pT pS pD pC) ++ wRk Z r h sk ss) ++ wBk Z h L (nI N) (nI u) sc nm bP bH op f1 f2 l0 l1 l2 l3 l4 l5) ++ wBk Z b Ld hcd lcd scd nmd bPd bHd opd f1d f2d l0d l1d l2d l3d l4d l5d) ++ wPa Z p kk b ti si nk br fl fa y0 y1 y2 y3 y4 y5) ++ wTk Z kk t ct kf0 sf0 vf0) [] rfl rfl ⟨by decide, by decide⟩ (Nat.le_of_ble_eq_true rfl) rfl rfl ?_
    rintro _ _ ⟨rfl, rfl⟩
    refine J_st ([]) rfl ?_
    refine J_ws ((((((((wRg Z x t b p h r a e er ++ wSt Z e nt dgt cot lit pPt pHt pFt pTt pSt pDt pCt) ++ wSt Z a (nI N) dg co li pP pH pF pT pS pD pC) ++ wRk Z r h sk ss) ++ wBk Z h L (nI N) (nI u) sc nm bP bH op f1 f2 l0 l1 l2 l3 l4 l5) ++ wBk Z b Ld hcd lcd scd nmd bPd bHd opd f1d f2d l0d l1d l2d l3d l4d l5d) ++ wPa Z p kk b ti si nk br fl fa y0 y1 y2 y3 y4 y5) ++ wTk Z kk t ct kf0 sf0 vf0) ++ wTp Z t (nI ((((tm + 1 + 1 + 1 + 1) + 1 + 1 + 1 + 1) + 1 + 1 + 1 + 1) + 1 + 1 + 1 + 1)) (apF (apF (apF (apF tb tm i0) (tm + 1 + 1 + 1 + 1) i1) ((tm + 1 + 1 + 1 + 1) + 1 + 1 + 1 + 1) i2) (((tm + 1 + 1 + 1 + 1) + 1 + 1 + 1 + 1) + 1 + 1 + 1 + 1) i3)) rfl ?_
    refine J_aload_n C iX8_feed_56 rfl rfl ?_
    refine J_get (.ref (t 0)) 0 C iX8_feed_57 gf_X8_12 rfl rfl ?_
    refine J_iload C iX8_feed_60 rfl ?_
    refine J_cVb (As := [.int i4]) (st := []) (rc2 := (rmM 8 1 6).cells) (rs2 := (rmM 8 1 6).slots) C iX8_feed_62 lm_X8_73 yc_X6_append yv_X6_append (c_X6_append (m := ((((tm + 1 + 1 + 1 + 1) + 1 + 1 + 1 + 1) + 1 + 1 + 1 + 1) + 1 + 1 + 1 + 1)) (by omega)) (q0 := 0) rfl rfl rfl (((((((wRg Z x t b p h r a e er ++ wSt Z e nt dgt cot lit pPt pHt pFt pTt pSt pDt pCt) ++ wSt Z a (nI N) dg co li pP pH pF pT pS pD pC) ++ wRk Z r h sk ss) ++ wBk Z h L (nI N) (nI u) sc nm bP bH op f1 f2 l0 l1 l2 l3 l4 l5) ++ wBk Z b Ld hcd lcd scd nmd bPd bHd opd f1d f2d l0d l1d l2d l3d l4d l5d) ++ wPa Z p kk b ti si nk br fl fa y0 y1 y2 y3 y4 y5) ++ wTk Z kk t ct kf0 sf0 vf0) [] rfl rfl ⟨by decide, by decide⟩ (Nat.le_of_ble_eq_true rfl) rfl rfl ?_
    rintro _ _ ⟨rfl, rfl⟩
    refine J_st ([]) rfl ?_
    refine J_ws ((((((((wRg Z x t b p h r a e er ++ wSt Z e nt dgt cot lit pPt pHt pFt pTt pSt pDt pCt) ++ wSt Z a (nI N) dg co li pP pH pF pT pS pD pC) ++ wRk Z r h sk ss) ++ wBk Z h L (nI N) (nI u) sc nm bP bH op f1 f2 l0 l1 l2 l3 l4 l5) ++ wBk Z b Ld hcd lcd scd nmd bPd bHd opd f1d f2d l0d l1d l2d l3d l4d l5d) ++ wPa Z p kk b ti si nk br fl fa y0 y1 y2 y3 y4 y5) ++ wTk Z kk t ct kf0 sf0 vf0) ++ wTp Z t (nI (((((tm + 1 + 1 + 1 + 1) + 1 + 1 + 1 + 1) + 1 + 1 + 1 + 1) + 1 + 1 + 1 + 1) + 1 + 1 + 1 + 1)) (apF (apF (apF (apF (apF tb tm i0) (tm + 1 + 1 + 1 + 1) i1) ((tm + 1 + 1 + 1 + 1) + 1 + 1 + 1 + 1) i2) (((tm + 1 + 1 + 1 + 1) + 1 + 1 + 1 + 1) + 1 + 1 + 1 + 1) i3) ((((tm + 1 + 1 + 1 + 1) + 1 + 1 + 1 + 1) + 1 + 1 + 1 + 1) + 1 + 1 + 1 + 1) i4)) rfl ?_
    refine J_aload_n C iX8_feed_65 rfl rfl ?_
    refine J_get (.ref (t 0)) 0 C iX8_feed_66 gf_X8_12 rfl rfl ?_
    refine J_get (.int (nI (((((tm + 1 + 1 + 1 + 1) + 1 + 1 + 1 + 1) + 1 + 1 + 1 + 1) + 1 + 1 + 1 + 1) + 1 + 1 + 1 + 1))) 73 C iX8_feed_69 gf_X8_63 rfl rfl ?_
    exact J_x2m (J_iret C E iX8_feed_72 ⟨rfl, rfl, hs10⟩)
  · refine J_icmple 23 C iX8_feed_10 rfl (fun h10 => absurd h10 (nI_ge (a := 1980) (b := tm) (by omega) (by omega))) (fun h10 => ?_)
    exact J_throw (text := "the tape is full") C hl E hT iX8_feed_13 iX8_feed_16 iX8_feed_17 iX8_feed_19 iX8_feed_22 (tsg_in (i := 359) (by decide +kernel) rfl) (tsg_in (i := 60) (by decide +kernel) rfl) (by decide) hat_70 (by decide) ⟨by decide, by decide⟩ (by decide) (by decide) ⟨rfl, hs10⟩ rfl

set_option maxRecDepth 100000 in
set_option maxHeartbeats 4000000 in
theorem c_X8_trim {Z : GZ} {l : Launch} (hl : l.stackTraces = false) {x t b p h r a e kk L Ld : Nat → Nat} {N u tm nk : Nat} {er dg co li sk scd hcd lcd sc ct ti si fl fa nt dgt cot lit y0 y1 y2 y3 y4 y5 : Int32} {br : Bool} {ss pP pH pF pT pS pD pC tb bP bH op f1 f2 l0 l1 l2 l3 l4 l5 bPd bHd opd f1d f2d l0d l1d l2d l3d l4d l5d sf0 pPt pHt pFt pTt pSt pDt pCt : Nat → Int32} {nm nmd vf0 : Nat → Int64} {kf0 : Nat → Option Nat} {q : Int32}  : Cq Z l yX8_trim cX8_trim 2 (some .int) (rmM 8 1 6) [.ref (x 0), .int q] ((((((((wRg Z x t b p h r a e er ++ wSt Z e nt dgt cot lit pPt pHt pFt pTt pSt pDt pCt) ++ wSt Z a (nI N) dg co li pP pH pF pT pS pD pC) ++ wRk Z r h sk ss) ++ wBk Z h L (nI N) (nI u) sc nm bP bH op f1 f2 l0 l1 l2 l3 l4 l5) ++ wBk Z b Ld hcd lcd scd nmd bPd bHd opd f1d f2d l0d l1d l2d l3d l4d l5d) ++ wPa Z p kk b ti si nk br fl fa y0 y1 y2 y3 y4 y5) ++ wTk Z kk t ct kf0 sf0 vf0) ++ wTp Z t (nI tm) tb) (fun v w => v = some (.int q) ∧ w = ((((((((wRg Z x t b p h r a e er ++ wSt Z e nt dgt cot lit pPt pHt pFt pTt pSt pDt pCt) ++ wSt Z a (nI N) dg co li pP pH pF pT pS pD pC) ++ wRk Z r h sk ss) ++ wBk Z h L (nI N) (nI u) sc nm bP bH op f1 f2 l0 l1 l2 l3 l4 l5) ++ wBk Z b Ld hcd lcd scd nmd bPd bHd opd f1d f2d l0d l1d l2d l3d l4d l5d) ++ wPa Z p kk b ti si nk br fl fa y0 y1 y2 y3 y4 y5) ++ wTk Z kk t ct kf0 sf0 vf0) ++ wTp Z t q tb) ∧ ¬ (q < 0 ∨ nI tm < q)) (fun E => E = "java/lang/IllegalArgumentException" ∧ (q < 0 ∨ nI tm < q)) := by
  refine Cq.ofJ (own := RX8) (nm := "trim") (lv0 := [(0, .ref (x 0)), (1, .int q)]) (by decide) rfl rfl (Nat.le_of_ble_eq_true rfl) rfl (fun X hXl C E hT => ?_)
  subst hXl
  refine J_iload_n C iX8_trim_0 rfl rfl ?_
  refine J_iflt 15 C iX8_trim_1 rfl (fun h1 => ?_) (fun h1 => ?_)
  · exact J_throw (text := "the tape has not so many bytes") C hl E hT iX8_trim_15 iX8_trim_18 iX8_trim_19 iX8_trim_21 iX8_trim_24 (tsg_in (i := 567) (by decide +kernel) rfl) (tsg_in (i := 61) (by decide +kernel) rfl) (by decide) hat_81 (by decide) ⟨by decide, by decide⟩ (by decide) (by decide) ⟨rfl, Or.inl h1⟩ rfl
  · refine J_iload_n C iX8_trim_4 rfl rfl ?_
    refine J_aload_n C iX8_trim_5 rfl rfl ?_
    refine J_get (.ref (t 0)) 0 C iX8_trim_6 gf_X8_12 rfl rfl ?_
    refine J_get (.int (nI tm)) 73 C iX8_trim_9 gf_X8_63 rfl rfl ?_
    refine J_icmple 25 C iX8_trim_12 rfl (fun h12 => ?_) (fun h12 => ?_)
    · refine J_aload_n C iX8_trim_25 rfl rfl ?_
      refine J_get (.ref (t 0)) 0 C iX8_trim_26 gf_X8_12 rfl rfl ?_
      refine J_iload_n C iX8_trim_29 rfl rfl ?_
      refine J_put ((((((((wRg Z x t b p h r a e er ++ wSt Z e nt dgt cot lit pPt pHt pFt pTt pSt pDt pCt) ++ wSt Z a (nI N) dg co li pP pH pF pT pS pD pC) ++ wRk Z r h sk ss) ++ wBk Z h L (nI N) (nI u) sc nm bP bH op f1 f2 l0 l1 l2 l3 l4 l5) ++ wBk Z b Ld hcd lcd scd nmd bPd bHd opd f1d f2d l0d l1d l2d l3d l4d l5d) ++ wPa Z p kk b ti si nk br fl fa y0 y1 y2 y3 y4 y5) ++ wTk Z kk t ct kf0 sf0 vf0) ++ wTp Z t q tb) 73 C iX8_trim_30 pf_X8_63 rfl rfl rfl (Nat.le_of_ble_eq_true rfl) rfl ?_
      refine J_iload_n C iX8_trim_33 rfl rfl ?_
      exact J_x2m (J_iret C E iX8_trim_34 ⟨rfl, rfl, not_or.mpr ⟨h1, Int32.not_lt.mpr h12⟩⟩)
    · exact J_throw (text := "the tape has not so many bytes") C hl E hT iX8_trim_15 iX8_trim_18 iX8_trim_19 iX8_trim_21 iX8_trim_24 (tsg_in (i := 567) (by decide +kernel) rfl) (tsg_in (i := 61) (by decide +kernel) rfl) (by decide) hat_81 (by decide) ⟨by decide, by decide⟩ (by decide) (by decide) ⟨rfl, Or.inr (Int32.not_le.mp h12)⟩ rfl

