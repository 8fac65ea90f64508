/-- the law's row of one number -/
def wOu (Z : GZ) (ou : Nat → Nat) (f : Nat → Int64) : va_W := [(ou 0, .inl (zA Z 1, 1, .inr (.inl f)))]
set_option maxRecDepth 100000 in
set_option maxHeartbeats 4000000 in
theorem k_placeOf {Z : GZ} {l : Launch} (hl : l.stackTraces = false) {x ou : Nat → Nat} {f : Nat → Int64} {N u tm : Nat} {er dg co : Int32} {pP pH pF pT op f1 f2 l0 tb : Nat → Int32} {hh c0 c1 c2 c3 : Nat → Nat} {q : Int32} {w0 : va_W} (hC : CI Z x N u tm er dg co pP pH pF pT op f1 f2 l0 hh c0 c1 c2 c3 tb w0) : CtL Z l yL_placeOf cL_placeOf 4 (some .int) [(0, 9, 12, 31)] (rmM 9 1 6) [.ref (x 0), .int q, .ref (ou 0)] (wOu Z ou f ++ w0) (fun v w => v = some (.int ((if ¬ hasB (nI N) q = true then 1 else 0) : Int32)) ∧ ∃ fz w2, w = wOu Z ou fz ++ w2 ∧ ((((if ¬ hasB (nI N) q = true then 1 else 0) : Int32) = 0 ∧ fz 0 = ((stAt (nI N) q pP (-1)) : Int32).toInt64 ∧ CI Z x N u tm er dg co pP pH pF pT op f1 f2 l0 hh c0 c1 c2 c3 tb w2) ∨ (¬ ((if ¬ hasB (nI N) q = true then 1 else 0) : Int32) = 0 ∧ CI Z x N u tm er dg co pP pH pF pT op f1 f2 l0 hh c0 c1 c2 c3 tb w2))) := by
  obtain ⟨fs7, hq0⟩ := hC.head
  refine CtL.ofJ (own := RL) (nm := "placeOf") (lv0 := [(0, .ref (x 0)), (1, .int q), (2, .ref (ou 0))]) (by decide) rfl rfl (Nat.le_of_ble_eq_true rfl) rfl (fun X hXl C E hT hV => ?_)
  subst hXl
  refine J_aload_n C iL_placeOf_0 rfl rfl ?_
  refine J_iconst 0 C iL_placeOf_1 rfl ?_
  refine J_aload_n C iL_placeOf_2 rfl rfl ?_
  refine J_iload_n C iL_placeOf_3 rfl rfl ?_
  refine J_tryV (As := [.int q]) (st := .int 0 :: .ref (ou 0) :: []) (rc2 := 0) (rs2 := 0) C hV hT iL_placeOf_4 lm_L_28 yc_X8_placeOf yv_X8_placeOf (n_X8_placeOf hl hC) rfl rfl hq0 (wOu Z ou f) [] (by simp only [List.append_nil]) rfl ⟨Nat.le_of_ble_eq_true rfl, Nat.le_of_ble_eq_true rfl⟩ (Nat.le_of_ble_eq_true rfl) rfl rfl ?_ ?_
  · rintro _ w2 ⟨hc, rfl, hC2⟩
    refine J_st (.int (stAt (nI N) q pP (-1)) :: .int 0 :: .ref (ou 0) :: []) rfl ?_
    refine J_ws (wOu Z ou f ++ w2) (by simp only [List.append_nil]) ?_
    refine J_i2l C iL_placeOf_7 ?_
    refine J_last (wOu Z ou (vp_updL f (0 : Int32).toNatClampNeg ((stAt (nI N) q pP (-1)).toInt64)) ++ w2) 0 C iL_placeOf_8 rfl (vp_in_nI (n := 0) (by omega) (by decide)) rfl ?_
    rw [show Int32.toNatClampNeg 0 = 0 from rfl]
    refine J_goto 15 C iL_placeOf_9 rfl ?_
    refine J_iconst 0 C iL_placeOf_15 rfl ?_
    exact J_iret C E iL_placeOf_16 ⟨by rw [hc], (vp_updL f 0 ((stAt (nI N) q pP (-1)).toInt64)), w2, rfl, Or.inl ⟨hc, rfl, hC2⟩⟩
  · intro E9 hE9
    obtain ⟨rfl, hc⟩ := hE9
    refine ⟨12, ⟨[], (⟨0, 9, 12, 31⟩ : ExceptionTableEntry), [], "java/lang/IndexOutOfBoundsException", rfl, fun z h => absurd h List.not_mem_nil, by decide, by decide, (tsg_in (i := 978) (by decide +kernel) rfl), (nws_in (i := 990) (by decide +kernel) rfl), rfl⟩, fun q9 => ?_⟩
    refine J_astore_n [(3, .ref q9), (0, .ref (x 0)), (1, .int q), (2, .ref (ou 0))] C iL_placeOf_12 rfl (by decide) rfl ?_
    refine J_iconst 1 C iL_placeOf_13 rfl ?_
    exact J_iret C E iL_placeOf_14 ⟨by rw [hc], f, w0, rfl, Or.inr ⟨by rw [hc]; decide, hC⟩⟩
theorem ycw_L_placeOf : YCW yL_placeOf cL_placeOf 4 (some .int) [(0, 9, 12, 31)] 3 := ⟨(tsg_in (i := 96) (by decide +kernel) rfl), (tsg_in (i := 977) (by decide +kernel) rfl), by decide +kernel⟩
theorem ys_L_placeOf : YS yL_placeOf := tsg_in (i := 976) (by decide +kernel) rfl

set_option maxRecDepth 100000 in
set_option maxHeartbeats 4000000 in
theorem k_heightOf {Z : GZ} {l : Launch} (hl : l.stackTraces = false) {x ou : Nat → Nat} {f : Nat → Int64} {N u tm : Nat} {er dg co : Int32} {pP pH pF pT op f1 f2 l0 tb : Nat → Int32} {hh c0 c1 c2 c3 : Nat → Nat} {q : Int32} {w0 : va_W} (hC : CI Z x N u tm er dg co pP pH pF pT op f1 f2 l0 hh c0 c1 c2 c3 tb w0) : CtL Z l yL_heightOf cL_heightOf 4 (some .int) [(0, 9, 12, 31)] (rmM 9 1 6) [.ref (x 0), .int q, .ref (ou 0)] (wOu Z ou f ++ w0) (fun v w => v = some (.int ((if ¬ hasB (nI N) q = true then 1 else 0) : Int32)) ∧ ∃ fz w2, w = wOu Z ou fz ++ w2 ∧ ((((if ¬ hasB (nI N) q = true then 1 else 0) : Int32) = 0 ∧ fz 0 = ((stAt (nI N) q pH 0) : Int32).toInt64 ∧ CI Z x N u tm er dg co pP pH pF pT op f1 f2 l0 hh c0 c1 c2 c3 tb w2) ∨ (¬ ((if ¬ hasB (nI N) q = true then 1 else 0) : Int32) = 0 ∧ CI Z x N u tm er dg co pP pH pF pT op f1 f2 l0 hh c0 c1 c2 c3 tb w2))) := by
  obtain ⟨fs7, hq0⟩ := hC.head
  refine CtL.ofJ (own := RL) (nm := "heightOf") (lv0 := [(0, .ref (x 0)), (1, .int q), (2, .ref (ou 0))]) (by decide) rfl rfl (Nat.le_of_ble_eq_true rfl) rfl (fun X hXl C E hT hV => ?_)
  subst hXl
  refine J_aload_n C iL_heightOf_0 rfl rfl ?_
  refine J_iconst 0 C iL_heightOf_1 rfl ?_
  refine J_aload_n C iL_heightOf_2 rfl rfl ?_
  refine J_iload_n C iL_heightOf_3 rfl rfl ?_
  refine J_tryV (As := [.int q]) (st := .int 0 :: .ref (ou 0) :: []) (rc2 := 0) (rs2 := 0) C hV hT iL_heightOf_4 lm_L_33 yc_X8_heightOf yv_X8_heightOf (n_X8_heightOf hl hC) rfl rfl hq0 (wOu Z ou f) [] (by simp only [List.append_nil]) rfl ⟨Nat.le_of_ble_eq_true rfl, Nat.le_of_ble_eq_true rfl⟩ (Nat.le_of_ble_eq_true rfl) rfl rfl ?_ ?_
  · rintro _ w2 ⟨hc, rfl, hC2⟩
    refine J_st (.int (stAt (nI N) q pH 0) :: .int 0 :: .ref (ou 0) :: []) rfl ?_
    refine J_ws (wOu Z ou f ++ w2) (by simp only [List.append_nil]) ?_
    refine J_i2l C iL_heightOf_7 ?_
    refine J_last (wOu Z ou (vp_updL f (0 : Int32).toNatClampNeg ((stAt (nI N) q pH 0).toInt64)) ++ w2) 0 C iL_heightOf_8 rfl (vp_in_nI (n := 0) (by omega) (by decide)) rfl ?_
    rw [show Int32.toNatClampNeg 0 = 0 from rfl]
    refine J_goto 15 C iL_heightOf_9 rfl ?_
    refine J_iconst 0 C iL_heightOf_15 rfl ?_
    exact J_iret C E iL_heightOf_16 ⟨by rw [hc], (vp_updL f 0 ((stAt (nI N) q pH 0).toInt64)), w2, rfl, Or.inl ⟨hc, rfl, hC2⟩⟩
  · intro E9 hE9
    obtain ⟨rfl, hc⟩ := hE9
    refine ⟨12, ⟨[], (⟨0, 9, 12, 31⟩ : ExceptionTableEntry), [], "java/lang/IndexOutOfBoundsException", rfl, fun z h => absurd h List.not_mem_nil, by decide, by decide, (tsg_in (i := 978) (by decide +kernel) rfl), (nws_in (i := 990) (by decide +kernel) rfl), rfl⟩, fun q9 => ?_⟩
    refine J_astore_n [(3, .ref q9), (0, .ref (x 0)), (1, .int q), (2, .ref (ou 0))] C iL_heightOf_12 rfl (by decide) rfl ?_
    refine J_iconst 1 C iL_heightOf_13 rfl ?_
    exact J_iret C E iL_heightOf_14 ⟨by rw [hc], f, w0, rfl, Or.inr ⟨by rw [hc]; decide, hC⟩⟩
theorem ycw_L_heightOf : YCW yL_heightOf cL_heightOf 4 (some .int) [(0, 9, 12, 31)] 3 := ⟨(tsg_in (i := 96) (by decide +kernel) rfl), (tsg_in (i := 1006) (by decide +kernel) rfl), by decide +kernel⟩
theorem ys_L_heightOf : YS yL_heightOf := tsg_in (i := 1005) (by decide +kernel) rfl

set_option maxRecDepth 100000 in
set_option maxHeartbeats 4000000 in
theorem k_hoursLost {Z : GZ} {l : Launch} (hl : l.stackTraces = false) {x ou : Nat → Nat} {f : Nat → Int64} {N u tm : Nat} {er dg co : Int32} {pP pH pF pT op f1 f2 l0 tb : Nat → Int32} {hh c0 c1 c2 c3 : Nat → Nat} {q : Int32} {w0 : va_W} (hC : CI Z x N u tm er dg co pP pH pF pT op f1 f2 l0 hh c0 c1 c2 c3 tb w0) : CtL Z l yL_hoursLost cL_hoursLost 4 (some .int) [(0, 9, 12, 31)] (rmM 9 1 6) [.ref (x 0), .int q, .ref (ou 0)] (wOu Z ou f ++ w0) (fun v w => v = some (.int ((if ¬ hasB (nI N) q = true then 1 else 0) : Int32)) ∧ ∃ fz w2, w = wOu Z ou fz ++ w2 ∧ ((((if ¬ hasB (nI N) q = true then 1 else 0) : Int32) = 0 ∧ fz 0 = ((bitC (stAt (nI N) q (dkG N pP pH pF pT) 0)) : Int32).toInt64 ∧ CI Z x N u tm er dg co pP pH pF pT op f1 f2 l0 hh c0 c1 c2 c3 tb w2) ∨ (¬ ((if ¬ hasB (nI N) q = true then 1 else 0) : Int32) = 0 ∧ CI Z x N u tm er dg co pP pH pF pT op f1 f2 l0 hh c0 c1 c2 c3 tb w2))) := by
  obtain ⟨fs7, hq0⟩ := hC.head
  refine CtL.ofJ (own := RL) (nm := "hoursLost") (lv0 := [(0, .ref (x 0)), (1, .int q), (2, .ref (ou 0))]) (by decide) rfl rfl (Nat.le_of_ble_eq_true rfl) rfl (fun X hXl C E hT hV => ?_)
  subst hXl
  refine J_aload_n C iL_hoursLost_0 rfl rfl ?_
  refine J_iconst 0 C iL_hoursLost_1 rfl ?_
  refine J_aload_n C iL_hoursLost_2 rfl rfl ?_
  refine J_iload_n C iL_hoursLost_3 rfl rfl ?_
  refine J_tryV (As := [.int q]) (st := .int 0 :: .ref (ou 0) :: []) (rc2 := 0) (rs2 := 0) C hV hT iL_hoursLost_4 lm_L_36 yc_X8_hoursLost yv_X8_hoursLost (n_X8_hoursLost hl hC) rfl rfl hq0 (wOu Z ou f) [] (by simp only [List.append_nil]) rfl ⟨Nat.le_of_ble_eq_true rfl, Nat.le_of_ble_eq_true rfl⟩ (Nat.le_of_ble_eq_true rfl) rfl rfl ?_ ?_
  · rintro _ w2 ⟨hc, rfl, hC2⟩
    refine J_st (.int (bitC (stAt (nI N) q (dkG N pP pH pF pT) 0)) :: .int 0 :: .ref (ou 0) :: []) rfl ?_
    refine J_ws (wOu Z ou f ++ w2) (by simp only [List.append_nil]) ?_
    refine J_i2l C iL_hoursLost_7 ?_
    refine J_last (wOu Z ou (vp_updL f (0 : Int32).toNatClampNeg ((bitC (stAt (nI N) q (dkG N pP pH pF pT) 0)).toInt64)) ++ w2) 0 C iL_hoursLost_8 rfl (vp_in_nI (n := 0) (by omega) (by decide)) rfl ?_
    rw [show Int32.toNatClampNeg 0 = 0 from rfl]
    refine J_goto 15 C iL_hoursLost_9 rfl ?_
    refine J_iconst 0 C iL_hoursLost_15 rfl ?_
    exact J_iret C E iL_hoursLost_16 ⟨by rw [hc], (vp_updL f 0 ((bitC (stAt (nI N) q (dkG N pP pH pF pT) 0)).toInt64)), w2, rfl, Or.inl ⟨hc, rfl, hC2⟩⟩
  · intro E9 hE9
    obtain ⟨rfl, hc⟩ := hE9
    refine ⟨12, ⟨[], (⟨0, 9, 12, 31⟩ : ExceptionTableEntry), [], "java/lang/IndexOutOfBoundsException", rfl, fun z h => absurd h List.not_mem_nil, by decide, by decide, (tsg_in (i := 978) (by decide +kernel) rfl), (nws_in (i := 990) (by decide +kernel) rfl), rfl⟩, fun q9 => ?_⟩
    refine J_astore_n [(3, .ref q9), (0, .ref (x 0)), (1, .int q), (2, .ref (ou 0))] C iL_hoursLost_12 rfl (by decide) rfl ?_
    refine J_iconst 1 C iL_hoursLost_13 rfl ?_
    exact J_iret C E iL_hoursLost_14 ⟨by rw [hc], f, w0, rfl, Or.inr ⟨by rw [hc]; decide, hC⟩⟩
theorem ycw_L_hoursLost : YCW yL_hoursLost cL_hoursLost 4 (some .int) [(0, 9, 12, 31)] 3 := ⟨(tsg_in (i := 96) (by decide +kernel) rfl), (tsg_in (i := 1013) (by decide +kernel) rfl), by decide +kernel⟩
theorem ys_L_hoursLost : YS yL_hoursLost := tsg_in (i := 1012) (by decide +kernel) rfl

set_option maxRecDepth 100000 in
set_option maxHeartbeats 4000000 in
theorem k_castBy {Z : GZ} {l : Launch} (hl : l.stackTraces = false) {x ou : Nat → Nat} {f : Nat → Int64} {N u tm : Nat} {er dg co : Int32} {pP pH pF pT op f1 f2 l0 tb : Nat → Int32} {hh c0 c1 c2 c3 : Nat → Nat} {q : Int32} {w0 : va_W} (hC : CI Z x N u tm er dg co pP pH pF pT op f1 f2 l0 hh c0 c1 c2 c3 tb w0) : CtL Z l yL_castBy cL_castBy 4 (some .int) [(0, 9, 12, 31)] (rmM 9 1 6) [.ref (x 0), .int q, .ref (ou 0)] (wOu Z ou f ++ w0) (fun v w => v = some (.int ((if ¬ hasB (nI N) q = true then 1 else 0) : Int32)) ∧ ∃ fz w2, w = wOu Z ou fz ++ w2 ∧ ((((if ¬ hasB (nI N) q = true then 1 else 0) : Int32) = 0 ∧ fz 0 = ((stAt (nI N) q (csG N pP pH pF pT) 0) : Int32).toInt64 ∧ CI Z x N u tm er dg co pP pH pF pT op f1 f2 l0 hh c0 c1 c2 c3 tb w2) ∨ (¬ ((if ¬ hasB (nI N) q = true then 1 else 0) : Int32) = 0 ∧ CI Z x N u tm er dg co pP pH pF pT op f1 f2 l0 hh c0 c1 c2 c3 tb w2))) := by
  obtain ⟨fs7, hq0⟩ := hC.head
  refine CtL.ofJ (own := RL) (nm := "castBy") (lv0 := [(0, .ref (x 0)), (1, .int q), (2, .ref (ou 0))]) (by decide) rfl rfl (Nat.le_of_ble_eq_true rfl) rfl (fun X hXl C E hT hV => ?_)
  subst hXl
  refine J_aload_n C iL_castBy_0 rfl rfl ?_
  refine J_iconst 0 C iL_castBy_1 rfl ?_
  refine J_aload_n C iL_castBy_2 rfl rfl ?_
  refine J_iload_n C iL_castBy_3 rfl rfl ?_
  refine J_tryV (As := [.int q]) (st := .int 0 :: .ref (ou 0) :: []) (rc2 := 0) (rs2 := 0) C hV hT iL_castBy_4 lm_L_39 yc_X8_castBy yv_X8_castBy (n_X8_castBy hl hC) rfl rfl hq0 (wOu Z ou f) [] (by simp only [List.append_nil]) rfl ⟨Nat.le_of_ble_eq_true rfl, Nat.le_of_ble_eq_true rfl⟩ (Nat.le_of_ble_eq_true rfl) rfl rfl ?_ ?_
  · rintro _ w2 ⟨hc, rfl, hC2⟩
    refine J_st (.int (stAt (nI N) q (csG N pP pH pF pT) 0) :: .int 0 :: .ref (ou 0) :: []) rfl ?_
    refine J_ws (wOu Z ou f ++ w2) (by simp only [List.append_nil]) ?_
    refine J_i2l C iL_castBy_7 ?_
    refine J_last (wOu Z ou (vp_updL f (0 : Int32).toNatClampNeg ((stAt (nI N) q (csG N pP pH pF pT) 0).toInt64)) ++ w2) 0 C iL_castBy_8 rfl (vp_in_nI (n := 0) (by omega) (by decide)) rfl ?_
    rw [show Int32.toNatClampNeg 0 = 0 from rfl]
    refine J_goto 15 C iL_castBy_9 rfl ?_
    refine J_iconst 0 C iL_castBy_15 rfl ?_
    exact J_iret C E iL_castBy_16 ⟨by rw [hc], (vp_updL f 0 ((stAt (nI N) q (csG N pP pH pF pT) 0).toInt64)), w2, rfl, Or.inl ⟨hc, rfl, hC2⟩⟩
  · intro E9 hE9
    obtain ⟨rfl, hc⟩ := hE9
    refine ⟨12, ⟨[], (⟨0, 9, 12, 31⟩ : ExceptionTableEntry), [], "java/lang/IndexOutOfBoundsException", rfl, fun z h => absurd h List.not_mem_nil, by decide, by decide, (tsg_in (i := 978) (by decide +kernel) rfl), (nws_in (i := 990) (by decide +kernel) rfl), rfl⟩, fun q9 => ?_⟩
    refine J_astore_n [(3, .ref q9), (0, .ref (x 0)), (1, .int q), (2, .ref (ou 0))] C iL_castBy_12 rfl (by decide) rfl ?_
    refine J_iconst 1 C iL_castBy_13 rfl ?_
    exact J_iret C E iL_castBy_14 ⟨by rw [hc], f, w0, rfl, Or.inr ⟨by rw [hc]; decide, hC⟩⟩
theorem ycw_L_castBy : YCW yL_castBy cL_castBy 4 (some .int) [(0, 9, 12, 31)] 3 := ⟨(tsg_in (i := 96) (by decide +kernel) rfl), (tsg_in (i := 1020) (by decide +kernel) rfl), by decide +kernel⟩
theorem ys_L_castBy : YS yL_castBy := tsg_in (i := 1019) (by decide +kernel) rfl

set_option maxRecDepth 100000 in
set_option maxHeartbeats 4000000 in
theorem k_hasCurfew {Z : GZ} {l : Launch} (hl : l.stackTraces = false) {x ou : Nat → Nat} {f : Nat → Int64} {N u tm : Nat} {er dg co : Int32} {pP pH pF pT op f1 f2 l0 tb : Nat → Int32} {hh c0 c1 c2 c3 : Nat → Nat} {q : Int32} {w0 : va_W} (hC : CI Z x N u tm er dg co pP pH pF pT op f1 f2 l0 hh c0 c1 c2 c3 tb w0) : CtL Z l yL_hasCurfew cL_hasCurfew 4 (some .int) [(0, 16, 19, 31)] (rmM 9 1 6) [.ref (x 0), .int q, .ref (ou 0)] (wOu Z ou f ++ w0) (fun v w => v = some (.int ((if ¬ hasB (nI N) q = true then 1 else 0) : Int32)) ∧ ∃ fz w2, w = wOu Z ou fz ++ w2 ∧ ((((if ¬ hasB (nI N) q = true then 1 else 0) : Int32) = 0 ∧ fz 0 = (b2i (!decide (stAt (nI N) q pF (-1) = -1))).toInt64 ∧ CI Z x N u tm er dg co pP pH pF pT op f1 f2 l0 hh c0 c1 c2 c3 tb w2) ∨ (¬ ((if ¬ hasB (nI N) q = true then 1 else 0) : Int32) = 0 ∧ CI Z x N u tm er dg co pP pH pF pT op f1 f2 l0 hh c0 c1 c2 c3 tb w2))) := by
  obtain ⟨fs7, hq0⟩ := hC.head
  refine CtL.ofJ (own := RL) (nm := "hasCurfew") (lv0 := [(0, .ref (x 0)), (1, .int q), (2, .ref (ou 0))]) (by decide) rfl rfl (Nat.le_of_ble_eq_true rfl) rfl (fun X hXl C E hT hV => ?_)
  subst hXl
  refine J_aload_n C iL_hasCurfew_0 rfl rfl ?_
  refine J_iconst 0 C iL_hasCurfew_1 rfl ?_
  refine J_aload_n C iL_hasCurfew_2 rfl rfl ?_
  refine J_iload_n C iL_hasCurfew_3 rfl rfl ?_
  refine J_tryV (As := [.int q]) (st := .int 0 :: .ref (ou 0) :: []) (rc2 := 0) (rs2 := 0) C hV hT iL_hasCurfew_4 lm_L_42 yc_X8_hasCurfew yv_X8_hasCurfew (n_X8_hasCurfew hl hC) rfl rfl hq0 (wOu Z ou f) [] (by simp only [List.append_nil]) rfl ⟨Nat.le_of_ble_eq_true rfl, Nat.le_of_ble_eq_true rfl⟩ (Nat.le_of_ble_eq_true rfl) rfl rfl ?_ ?_
  · rintro _ w2 ⟨hc, rfl, hC2⟩
    refine J_st (.int (b2i (!decide (stAt (nI N) q pF (-1) = -1))) :: .int 0 :: .ref (ou 0) :: []) rfl ?_
    refine J_ws (wOu Z ou f ++ w2) (by simp only [List.append_nil]) ?_
    refine J_ifeqb 14 C iL_hasCurfew_7 rfl (fun h7 => ?_) (fun h7 => ?_)
    · refine J_lconst 0 C iL_hasCurfew_14 rfl ?_
      refine J_last (wOu Z ou (vp_updL f (0 : Int32).toNatClampNeg 0) ++ w2) 0 C iL_hasCurfew_15 rfl (vp_in_nI (n := 0) (by omega) (by decide)) rfl ?_
      rw [show Int32.toNatClampNeg 0 = 0 from rfl]
      refine J_goto 22 C iL_hasCurfew_16 rfl ?_
      refine J_iconst 0 C iL_hasCurfew_22 rfl ?_
      exact J_iret C E iL_hasCurfew_23 ⟨by rw [hc], (vp_updL f 0 0), w2, rfl, Or.inl ⟨hc, by rw [h7]; rfl, hC2⟩⟩
    · refine J_lconst 1 C iL_hasCurfew_10 rfl ?_
      refine J_goto 15 C iL_hasCurfew_11 rfl ?_
      refine J_last (wOu Z ou (vp_updL f (0 : Int32).toNatClampNeg 1) ++ w2) 0 C iL_hasCurfew_15 rfl (vp_in_nI (n := 0) (by omega) (by decide)) rfl ?_
      rw [show Int32.toNatClampNeg 0 = 0 from rfl]
      refine J_goto 22 C iL_hasCurfew_16 rfl ?_
      refine J_iconst 0 C iL_hasCurfew_22 rfl ?_
      exact J_iret C E iL_hasCurfew_23 ⟨by rw [hc], (vp_updL f 0 1), w2, rfl, Or.inl ⟨hc, by rw [h7]; rfl, hC2⟩⟩
  · intro E9 hE9
    obtain ⟨rfl, hc⟩ := hE9
    refine ⟨19, ⟨[], (⟨0, 16, 19, 31⟩ : ExceptionTableEntry), [], "java/lang/IndexOutOfBoundsException", rfl, fun z h => absurd h List.not_mem_nil, by decide, by decide, (tsg_in (i := 978) (by decide +kernel) rfl), (nws_in (i := 990) (by decide +kernel) rfl), rfl⟩, fun q9 => ?_⟩
    refine J_astore_n [(3, .ref q9), (0, .ref (x 0)), (1, .int q), (2, .ref (ou 0))] C iL_hasCurfew_19 rfl (by decide) rfl ?_
    refine J_iconst 1 C iL_hasCurfew_20 rfl ?_
    exact J_iret C E iL_hasCurfew_21 ⟨by rw [hc], f, w0, rfl, Or.inr ⟨by rw [hc]; decide, hC⟩⟩
theorem ycw_L_hasCurfew : YCW yL_hasCurfew cL_hasCurfew 4 (some .int) [(0, 16, 19, 31)] 3 := ⟨(tsg_in (i := 96) (by decide +kernel) rfl), (tsg_in (i := 1027) (by decide +kernel) rfl), by decide +kernel⟩
theorem ys_L_hasCurfew : YS yL_hasCurfew := tsg_in (i := 1026) (by decide +kernel) rfl

set_option maxRecDepth 100000 in
set_option maxHeartbeats 4000000 in
theorem k_curfewFrom {Z : GZ} {l : Launch} (hl : l.stackTraces = false) {x ou : Nat → Nat} {f : Nat → Int64} {N u tm : Nat} {er dg co : Int32} {pP pH pF pT op f1 f2 l0 tb : Nat → Int32} {hh c0 c1 c2 c3 : Nat → Nat} {q : Int32} {w0 : va_W} (hC : CI Z x N u tm er dg co pP pH pF pT op f1 f2 l0 hh c0 c1 c2 c3 tb w0) : CtL Z l yL_curfewFrom cL_curfewFrom 4 (some .int) [(0, 9, 12, 31), (0, 9, 15, 13)] (rmM 9 2 12) [.ref (x 0), .int q, .ref (ou 0)] (wOu Z ou f ++ w0) (fun v w => v = some (.int ((if ¬ hasB (nI N) q = true then 1 else (if stAt (nI N) q pF (-1) = -1 then 2 else 0)) : Int32)) ∧ ∃ fz w2, w = wOu Z ou fz ++ w2 ∧ ((((if ¬ hasB (nI N) q = true then 1 else (if stAt (nI N) q pF (-1) = -1 then 2 else 0)) : Int32) = 0 ∧ fz 0 = ((stAt (nI N) q pF (-1)) : Int32).toInt64 ∧ CI Z x N u tm er dg co pP pH pF pT op f1 f2 l0 hh c0 c1 c2 c3 tb w2) ∨ (¬ ((if ¬ hasB (nI N) q = true then 1 else (if stAt (nI N) q pF (-1) = -1 then 2 else 0)) : Int32) = 0 ∧ CI Z x N u tm er dg co pP pH pF pT op f1 f2 l0 hh c0 c1 c2 c3 tb w2))) := by
  obtain ⟨fs7, hq0⟩ := hC.head
  refine CtL.ofJ (own := RL) (nm := "curfewFrom") (lv0 := [(0, .ref (x 0)), (1, .int q), (2, .ref (ou 0))]) (by decide) rfl rfl (Nat.le_of_ble_eq_true rfl) rfl (fun X hXl C E hT hV => ?_)
  subst hXl
  refine J_aload_n C iL_curfewFrom_0 rfl rfl ?_
  refine J_iconst 0 C iL_curfewFrom_1 rfl ?_
  refine J_aload_n C iL_curfewFrom_2 rfl rfl ?_
  refine J_iload_n C iL_curfewFrom_3 rfl rfl ?_
  refine J_tryV (As := [.int q]) (st := .int 0 :: .ref (ou 0) :: []) (rc2 := 0) (rs2 := 0) C hV hT iL_curfewFrom_4 lm_L_46 yc_X8_curfewFrom yv_X8_curfewFrom (n_X8_curfewFrom hl hC) rfl rfl hq0 (wOu Z ou f) [] (by simp only [List.append_nil]) rfl ⟨Nat.le_of_ble_eq_true rfl, Nat.le_of_ble_eq_true rfl⟩ (Nat.le_of_ble_eq_true rfl) rfl rfl ?_ ?_
  · rintro _ w2 ⟨hc, rfl, hC2⟩
    refine J_st (.int (stAt (nI N) q pF (-1)) :: .int 0 :: .ref (ou 0) :: []) rfl ?_
    refine J_ws (wOu Z ou f ++ w2) (by simp only [List.append_nil]) ?_
    refine J_i2l C iL_curfewFrom_7 ?_
    refine J_last (wOu Z ou (vp_updL f (0 : Int32).toNatClampNeg ((stAt (nI N) q pF (-1)).toInt64)) ++ w2) 0 C iL_curfewFrom_8 rfl (vp_in_nI (n := 0) (by omega) (by decide)) rfl ?_
    rw [show Int32.toNatClampNeg 0 = 0 from rfl]
    refine J_goto 18 C iL_curfewFrom_9 rfl ?_
    refine J_iconst 0 C iL_curfewFrom_18 rfl ?_
    exact J_iret C E iL_curfewFrom_19 ⟨by rw [hc], (vp_updL f 0 ((stAt (nI N) q pF (-1)).toInt64)), w2, rfl, Or.inl ⟨hc, rfl, hC2⟩⟩
  · intro E9 hE9
    rcases hE9 with ⟨rfl, hc⟩ | ⟨rfl, hc⟩
    · refine ⟨12, ⟨[], (⟨0, 9, 12, 31⟩ : ExceptionTableEntry), [(⟨0, 9, 15, 13⟩ : ExceptionTableEntry)], "java/lang/IndexOutOfBoundsException", rfl, fun z h => absurd h List.not_mem_nil, by decide, by decide, (tsg_in (i := 978) (by decide +kernel) rfl), (nws_in (i := 990) (by decide +kernel) rfl), rfl⟩, fun q9 => ?_⟩
      refine J_astore_n [(3, .ref q9), (0, .ref (x 0)), (1, .int q), (2, .ref (ou 0))] C iL_curfewFrom_12 rfl (by decide) rfl ?_
      refine J_iconst 1 C iL_curfewFrom_13 rfl ?_
      exact J_iret C E iL_curfewFrom_14 ⟨by rw [hc], f, w0, rfl, Or.inr ⟨by rw [hc]; decide, hC⟩⟩
    · refine ⟨15, ⟨[(⟨0, 9, 12, 31⟩ : ExceptionTableEntry)], (⟨0, 9, 15, 13⟩ : ExceptionTableEntry), [], "java/lang/IllegalStateException", rfl, fun z h => by simp only [List.mem_cons, List.not_mem_nil, or_false] at h; obtain rfl := h; exact ⟨by decide, "java/lang/IndexOutOfBoundsException", (tsg_in (i := 978) (by decide +kernel) rfl), List.mem_of_getElem? (i := 0) rfl⟩, by decide, by decide, (tsg_in (i := 860) (by decide +kernel) rfl), (nws_in (i := 867) (by decide +kernel) rfl), rfl⟩, fun q9 => ?_⟩
      refine J_astore_n [(3, .ref q9), (0, .ref (x 0)), (1, .int q), (2, .ref (ou 0))] C iL_curfewFrom_15 rfl (by decide) rfl ?_
      refine J_iconst 2 C iL_curfewFrom_16 rfl ?_
      exact J_iret C E iL_curfewFrom_17 ⟨by rw [hc], f, w0, rfl, Or.inr ⟨by rw [hc]; decide, hC⟩⟩
theorem ycw_L_curfewFrom : YCW yL_curfewFrom cL_curfewFrom 4 (some .int) [(0, 9, 12, 31), (0, 9, 15, 13)] 3 := ⟨(tsg_in (i := 96) (by decide +kernel) rfl), (tsg_in (i := 1034) (by decide +kernel) rfl), by decide +kernel⟩
theorem ys_L_curfewFrom : YS yL_curfewFrom := tsg_in (i := 1033) (by decide +kernel) rfl

set_option maxRecDepth 100000 in
set_option maxHeartbeats 4000000 in
theorem k_curfewTo {Z : GZ} {l : Launch} (hl : l.stackTraces = false) {x ou : Nat → Nat} {f : Nat → Int64} {N u tm : Nat} {er dg co : Int32} {pP pH pF pT op f1 f2 l0 tb : Nat → Int32} {hh c0 c1 c2 c3 : Nat → Nat} {q : Int32} {w0 : va_W} (hC : CI Z x N u tm er dg co pP pH pF pT op f1 f2 l0 hh c0 c1 c2 c3 tb w0) : CtL Z l yL_curfewTo cL_curfewTo 4 (some .int) [(0, 9, 12, 31), (0, 9, 15, 13)] (rmM 9 2 12) [.ref (x 0), .int q, .ref (ou 0)] (wOu Z ou f ++ w0) (fun v w => v = some (.int ((if ¬ hasB (nI N) q = true then 1 else (if stAt (nI N) q pF (-1) = -1 then 2 else 0)) : Int32)) ∧ ∃ fz w2, w = wOu Z ou fz ++ w2 ∧ ((((if ¬ hasB (nI N) q = true then 1 else (if stAt (nI N) q pF (-1) = -1 then 2 else 0)) : Int32) = 0 ∧ fz 0 = ((stAt (nI N) q pT (-1)) : Int32).toInt64 ∧ CI Z x N u tm er dg co pP pH pF pT op f1 f2 l0 hh c0 c1 c2 c3 tb w2) ∨ (¬ ((if ¬ hasB (nI N) q = true then 1 else (if stAt (nI N) q pF (-1) = -1 then 2 else 0)) : Int32) = 0 ∧ CI Z x N u tm er dg co pP pH pF pT op f1 f2 l0 hh c0 c1 c2 c3 tb w2))) := by
  obtain ⟨fs7, hq0⟩ := hC.head
  refine CtL.ofJ (own := RL) (nm := "curfewTo") (lv0 := [(0, .ref (x 0)), (1, .int q), (2, .ref (ou 0))]) (by decide) rfl rfl (Nat.le_of_ble_eq_true rfl) rfl (fun X hXl C E hT hV => ?_)
  subst hXl
  refine J_aload_n C iL_curfewTo_0 rfl rfl ?_
  refine J_iconst 0 C iL_curfewTo_1 rfl ?_
  refine J_aload_n C iL_curfewTo_2 rfl rfl ?_
  refine J_iload_n C iL_curfewTo_3 rfl rfl ?_
  refine J_tryV (As := [.int q]) (st := .int 0 :: .ref (ou 0) :: []) (rc2 := 0) (rs2 := 0) C hV hT iL_curfewTo_4 lm_L_49 yc_X8_curfewTo yv_X8_curfewTo (n_X8_curfewTo hl hC) rfl rfl hq0 (wOu Z ou f) [] (by simp only [List.append_nil]) rfl ⟨Nat.le_of_ble_eq_true rfl, Nat.le_of_ble_eq_true rfl⟩ (Nat.le_of_ble_eq_true rfl) rfl rfl ?_ ?_
  · rintro _ w2 ⟨hc, rfl, hC2⟩
    refine J_st (.int (stAt (nI N) q pT (-1)) :: .int 0 :: .ref (ou 0) :: []) rfl ?_
    refine J_ws (wOu Z ou f ++ w2) (by simp only [List.append_nil]) ?_
    refine J_i2l C iL_curfewTo_7 ?_
    refine J_last (wOu Z ou (vp_updL f (0 : Int32).toNatClampNeg ((stAt (nI N) q pT (-1)).toInt64)) ++ w2) 0 C iL_curfewTo_8 rfl (vp_in_nI (n := 0) (by omega) (by decide)) rfl ?_
    rw [show Int32.toNatClampNeg 0 = 0 from rfl]
    refine J_goto 18 C iL_curfewTo_9 rfl ?_
    refine J_iconst 0 C iL_curfewTo_18 rfl ?_
    exact J_iret C E iL_curfewTo_19 ⟨by rw [hc], (vp_updL f 0 ((stAt (nI N) q pT (-1)).toInt64)), w2, rfl, Or.inl ⟨hc, rfl, hC2⟩⟩
  · intro E9 hE9
    rcases hE9 with ⟨rfl, hc⟩ | ⟨rfl, hc⟩
    · refine ⟨12, ⟨[], (⟨0, 9, 12, 31⟩ : ExceptionTableEntry), [(⟨0, 9, 15, 13⟩ : ExceptionTableEntry)], "java/lang/IndexOutOfBoundsException", rfl, fun z h => absurd h List.not_mem_nil, by decide, by decide, (tsg_in (i := 978) (by decide +kernel) rfl), (nws_in (i := 990) (by decide +kernel) rfl), rfl⟩, fun q9 => ?_⟩
      refine J_astore_n [(3, .ref q9), (0, .ref (x 0)), (1, .int q), (2, .ref (ou 0))] C iL_curfewTo_12 rfl (by decide) rfl ?_
      refine J_iconst 1 C iL_curfewTo_13 rfl ?_
      exact J_iret C E iL_curfewTo_14 ⟨by rw [hc], f, w0, rfl, Or.inr ⟨by rw [hc]; decide, hC⟩⟩
    · refine ⟨15, ⟨[(⟨0, 9, 12, 31⟩ : ExceptionTableEntry)], (⟨0, 9, 15, 13⟩ : ExceptionTableEntry), [], "java/lang/IllegalStateException", rfl, fun z h => by simp only [List.mem_cons, List.not_mem_nil, or_false] at h; obtain rfl := h; exact ⟨by decide, "java/lang/IndexOutOfBoundsException", (tsg_in (i := 978) (by decide +kernel) rfl), List.mem_of_getElem? (i := 0) rfl⟩, by decide, by decide, (tsg_in (i := 860) (by decide +kernel) rfl), (nws_in (i := 867) (by decide +kernel) rfl), rfl⟩, fun q9 => ?_⟩
      refine J_astore_n [(3, .ref q9), (0, .ref (x 0)), (1, .int q), (2, .ref (ou 0))] C iL_curfewTo_15 rfl (by decide) rfl ?_
      refine J_iconst 2 C iL_curfewTo_16 rfl ?_
      exact J_iret C E iL_curfewTo_17 ⟨by rw [hc], f, w0, rfl, Or.inr ⟨by rw [hc]; decide, hC⟩⟩
theorem ycw_L_curfewTo : YCW yL_curfewTo cL_curfewTo 4 (some .int) [(0, 9, 12, 31), (0, 9, 15, 13)] 3 := ⟨(tsg_in (i := 96) (by decide +kernel) rfl), (tsg_in (i := 1046) (by decide +kernel) rfl), by decide +kernel⟩
theorem ys_L_curfewTo : YS yL_curfewTo := tsg_in (i := 1045) (by decide +kernel) rfl

set_option maxRecDepth 100000 in
set_option maxHeartbeats 4000000 in
theorem k_hoursLostTo {Z : GZ} {l : Launch} (hl : l.stackTraces = false) {x ou : Nat → Nat} {f : Nat → Int64} {N u tm : Nat} {er dg co : Int32} {pP pH pF pT op f1 f2 l0 tb : Nat → Int32} {hh c0 c1 c2 c3 : Nat → Nat} {q : Int32} {g : Int32} {w0 : va_W} (hC : CI Z x N u tm er dg co pP pH pF pT op f1 f2 l0 hh c0 c1 c2 c3 tb w0) : CtL Z l yL_hoursLostTo cL_hoursLostTo 5 (some .int) [(0, 10, 13, 31)] (rmM 9 2 12) [.ref (x 0), .int q, .int g, .ref (ou 0)] (wOu Z ou f ++ w0) (fun v w => v = some (.int ((if ¬ hasB (nI N) q = true then 1 else (if ¬ hasB (nI N) g = true then 1 else 0)) : Int32)) ∧ ∃ fz w2, w = wOu Z ou fz ++ w2 ∧ ((((if ¬ hasB (nI N) q = true then 1 else (if ¬ hasB (nI N) g = true then 1 else 0)) : Int32) = 0 ∧ fz 0 = ((bitC (shX N pP pH pF pT q g)) : Int32).toInt64 ∧ CI Z x N u tm er dg co pP pH pF pT op f1 f2 l0 hh c0 c1 c2 c3 tb w2) ∨ (¬ ((if ¬ hasB (nI N) q = true then 1 else (if ¬ hasB (nI N) g = true then 1 else 0)) : Int32) = 0 ∧ CI Z x N u tm er dg co pP pH pF pT op f1 f2 l0 hh c0 c1 c2 c3 tb w2))) := by
  obtain ⟨fs7, hq0⟩ := hC.head
  refine CtL.ofJ (own := RL) (nm := "hoursLostTo") (lv0 := [(0, .ref (x 0)), (1, .int q), (2, .int g), (3, .ref (ou 0))]) (by decide) rfl rfl (Nat.le_of_ble_eq_true rfl) rfl (fun X hXl C E hT hV => ?_)
  subst hXl
  refine J_aload_n C iL_hoursLostTo_0 rfl rfl ?_
  refine J_iconst 0 C iL_hoursLostTo_1 rfl ?_
  refine J_aload_n C iL_hoursLostTo_2 rfl rfl ?_
  refine J_iload_n C iL_hoursLostTo_3 rfl rfl ?_
  refine J_iload_n C iL_hoursLostTo_4 rfl rfl ?_
  refine J_tryV (As := [.int q, .int g]) (st := .int 0 :: .ref (ou 0) :: []) (rc2 := 0) (rs2 := 0) C hV hT iL_hoursLostTo_5 lm_L_52 yc_X8_hoursLostTo yv_X8_hoursLostTo (n_X8_hoursLostTo hl hC) rfl rfl hq0 (wOu Z ou f) [] (by simp only [List.append_nil]) rfl ⟨Nat.le_of_ble_eq_true rfl, Nat.le_of_ble_eq_true rfl⟩ (Nat.le_of_ble_eq_true rfl) rfl rfl ?_ ?_
  · rintro _ w2 ⟨hc, rfl, hC2⟩
    refine J_st (.int (bitC (shX N pP pH pF pT q g)) :: .int 0 :: .ref (ou 0) :: []) rfl ?_
    refine J_ws (wOu Z ou f ++ w2) (by simp only [List.append_nil]) ?_
    refine J_i2l C iL_hoursLostTo_8 ?_
    refine J_last (wOu Z ou (vp_updL f (0 : Int32).toNatClampNeg ((bitC (shX N pP pH pF pT q g)).toInt64)) ++ w2) 0 C iL_hoursLostTo_9 rfl (vp_in_nI (n := 0) (by omega) (by decide)) rfl ?_
    rw [show Int32.toNatClampNeg 0 = 0 from rfl]
    refine J_goto 17 C iL_hoursLostTo_10 rfl ?_
    refine J_iconst 0 C iL_hoursLostTo_17 rfl ?_
    exact J_iret C E iL_hoursLostTo_18 ⟨by rw [hc], (vp_updL f 0 ((bitC (shX N pP pH pF pT q g)).toInt64)), w2, rfl, Or.inl ⟨hc, rfl, hC2⟩⟩
  · intro E9 hE9
    obtain ⟨rfl, hc⟩ := hE9
    refine ⟨13, ⟨[], (⟨0, 10, 13, 31⟩ : ExceptionTableEntry), [], "java/lang/IndexOutOfBoundsException", rfl, fun z h => absurd h List.not_mem_nil, by decide, by decide, (tsg_in (i := 978) (by decide +kernel) rfl), (nws_in (i := 990) (by decide +kernel) rfl), rfl⟩, fun q9 => ?_⟩
    refine J_astore [(4, .ref q9), (0, .ref (x 0)), (1, .int q), (2, .int g), (3, .ref (ou 0))] C iL_hoursLostTo_13 (by decide) rfl ?_
    refine J_iconst 1 C iL_hoursLostTo_15 rfl ?_
    exact J_iret C E iL_hoursLostTo_16 ⟨by rw [hc], f, w0, rfl, Or.inr ⟨by rw [hc]; decide, hC⟩⟩
theorem ycw_L_hoursLostTo : YCW yL_hoursLostTo cL_hoursLostTo 5 (some .int) [(0, 10, 13, 31)] 4 := ⟨(tsg_in (i := 96) (by decide +kernel) rfl), (tsg_in (i := 1053) (by decide +kernel) rfl), by decide +kernel⟩
theorem ys_L_hoursLostTo : YS yL_hoursLostTo := tsg_in (i := 1052) (by decide +kernel) rfl

set_option maxRecDepth 100000 in
set_option maxHeartbeats 4000000 in
theorem k_heightAt {Z : GZ} {l : Launch} (hl : l.stackTraces = false) {x ou : Nat → Nat} {f : Nat → Int64} {N u tm : Nat} {er dg co : Int32} {pP pH pF pT op f1 f2 l0 tb : Nat → Int32} {hh c0 c1 c2 c3 : Nat → Nat} {q : Int32} {g : Int32} {w0 : va_W} (hC : CI Z x N u tm er dg co pP pH pF pT op f1 f2 l0 hh c0 c1 c2 c3 tb w0) : CtL Z l yL_heightAt cL_heightAt 5 (some .int) [(0, 10, 13, 31)] (rmM 9 2 12) [.ref (x 0), .int q, .int g, .ref (ou 0)] (wOu Z ou f ++ w0) (fun v w => v = some (.int ((if ¬ hasB (nI N) q = true then 1 else (if (g < 0 ∨ 24 ≤ g) then 1 else 0)) : Int32)) ∧ ∃ fz w2, w = wOu Z ou fz ++ w2 ∧ ((((if ¬ hasB (nI N) q = true then 1 else (if (g < 0 ∨ 24 ≤ g) then 1 else 0)) : Int32) = 0 ∧ fz 0 = ((wallF (nI N) pH pF pT q g) : Int32).toInt64 ∧ CI Z x N u tm er dg co pP pH pF pT op f1 f2 l0 hh c0 c1 c2 c3 tb w2) ∨ (¬ ((if ¬ hasB (nI N) q = true then 1 else (if (g < 0 ∨ 24 ≤ g) then 1 else 0)) : Int32) = 0 ∧ CI Z x N u tm er dg co pP pH pF pT op f1 f2 l0 hh c0 c1 c2 c3 tb w2))) := by
  obtain ⟨fs7, hq0⟩ := hC.head
  refine CtL.ofJ (own := RL) (nm := "heightAt") (lv0 := [(0, .ref (x 0)), (1, .int q), (2, .int g), (3, .ref (ou 0))]) (by decide) rfl rfl (Nat.le_of_ble_eq_true rfl) rfl (fun X hXl C E hT hV => ?_)
  subst hXl
  refine J_aload_n C iL_heightAt_0 rfl rfl ?_
  refine J_iconst 0 C iL_heightAt_1 rfl ?_
  refine J_aload_n C iL_heightAt_2 rfl rfl ?_
  refine J_iload_n C iL_heightAt_3 rfl rfl ?_
  refine J_iload_n C iL_heightAt_4 rfl rfl ?_
  refine J_tryV (As := [.int q, .int g]) (st := .int 0 :: .ref (ou 0) :: []) (rc2 := 0) (rs2 := 0) C hV hT iL_heightAt_5 lm_L_56 yc_X8_heightAt yv_X8_heightAt (n_X8_heightAt hl hC) rfl rfl hq0 (wOu Z ou f) [] (by simp only [List.append_nil]) rfl ⟨Nat.le_of_ble_eq_true rfl, Nat.le_of_ble_eq_true rfl⟩ (Nat.le_of_ble_eq_true rfl) rfl rfl ?_ ?_
  · rintro _ w2 ⟨hc, rfl, hC2⟩
    refine J_st (.int (wallF (nI N) pH pF pT q g) :: .int 0 :: .ref (ou 0) :: []) rfl ?_
    refine J_ws (wOu Z ou f ++ w2) (by simp only [List.append_nil]) ?_
    refine J_i2l C iL_heightAt_8 ?_
    refine J_last (wOu Z ou (vp_updL f (0 : Int32).toNatClampNeg ((wallF (nI N) pH pF pT q g).toInt64)) ++ w2) 0 C iL_heightAt_9 rfl (vp_in_nI (n := 0) (by omega) (by decide)) rfl ?_
    rw [show Int32.toNatClampNeg 0 = 0 from rfl]
    refine J_goto 17 C iL_heightAt_10 rfl ?_
    refine J_iconst 0 C iL_heightAt_17 rfl ?_
    exact J_iret C E iL_heightAt_18 ⟨by rw [hc], (vp_updL f 0 ((wallF (nI N) pH pF pT q g).toInt64)), w2, rfl, Or.inl ⟨hc, rfl, hC2⟩⟩
  · intro E9 hE9
    obtain ⟨rfl, hc⟩ := hE9
    refine ⟨13, ⟨[], (⟨0, 10, 13, 31⟩ : ExceptionTableEntry), [], "java/lang/IndexOutOfBoundsException", rfl, fun z h => absurd h List.not_mem_nil, by decide, by decide, (tsg_in (i := 978) (by decide +kernel) rfl), (nws_in (i := 990) (by decide +kernel) rfl), rfl⟩, fun q9 => ?_⟩
    refine J_astore [(4, .ref q9), (0, .ref (x 0)), (1, .int q), (2, .int g), (3, .ref (ou 0))] C iL_heightAt_13 (by decide) rfl ?_
    refine J_iconst 1 C iL_heightAt_15 rfl ?_
    exact J_iret C E iL_heightAt_16 ⟨by rw [hc], f, w0, rfl, Or.inr ⟨by rw [hc]; decide, hC⟩⟩
theorem ycw_L_heightAt : YCW yL_heightAt cL_heightAt 5 (some .int) [(0, 10, 13, 31)] 4 := ⟨(tsg_in (i := 96) (by decide +kernel) rfl), (tsg_in (i := 1060) (by decide +kernel) rfl), by decide +kernel⟩
theorem ys_L_heightAt : YS yL_heightAt := tsg_in (i := 1059) (by decide +kernel) rfl

set_option maxRecDepth 100000 in
set_option maxHeartbeats 4000000 in
theorem k_shadowOf {Z : GZ} {l : Launch} (hl : l.stackTraces = false) {x ou : Nat → Nat} {f : Nat → Int64} {N u tm : Nat} {er dg co : Int32} {pP pH pF pT op f1 f2 l0 tb : Nat → Int32} {hh c0 c1 c2 c3 : Nat → Nat} {q : Int32} {g : Int32} {w0 : va_W} (hC : CI Z x N u tm er dg co pP pH pF pT op f1 f2 l0 hh c0 c1 c2 c3 tb w0) : CtL Z l yL_shadowOf cL_shadowOf 5 (some .int) [(0, 10, 13, 31)] (rmM 9 2 12) [.ref (x 0), .int q, .int g, .ref (ou 0)] (wOu Z ou f ++ w0) (fun v w => v = some (.int ((if ¬ hasB (nI N) q = true then 1 else (if (g < 0 ∨ 24 ≤ g) then 1 else 0)) : Int32)) ∧ ∃ fz w2, w = wOu Z ou fz ++ w2 ∧ ((((if ¬ hasB (nI N) q = true then 1 else (if (g < 0 ∨ 24 ≤ g) then 1 else 0)) : Int32) = 0 ∧ fz 0 = ((wallF (nI N) pH pF pT q g * stepsF g / 2) : Int32).toInt64 ∧ CI Z x N u tm er dg co pP pH pF pT op f1 f2 l0 hh c0 c1 c2 c3 tb w2) ∨ (¬ ((if ¬ hasB (nI N) q = true then 1 else (if (g < 0 ∨ 24 ≤ g) then 1 else 0)) : Int32) = 0 ∧ CI Z x N u tm er dg co pP pH pF pT op f1 f2 l0 hh c0 c1 c2 c3 tb w2))) := by
  obtain ⟨fs7, hq0⟩ := hC.head
  refine CtL.ofJ (own := RL) (nm := "shadowOf") (lv0 := [(0, .ref (x 0)), (1, .int q), (2, .int g), (3, .ref (ou 0))]) (by decide) rfl rfl (Nat.le_of_ble_eq_true rfl) rfl (fun X hXl C E hT hV => ?_)
  subst hXl
  refine J_aload_n C iL_shadowOf_0 rfl rfl ?_
  refine J_iconst 0 C iL_shadowOf_1 rfl ?_
  refine J_aload_n C iL_shadowOf_2 rfl rfl ?_
  refine J_iload_n C iL_shadowOf_3 rfl rfl ?_
  refine J_iload_n C iL_shadowOf_4 rfl rfl ?_
  refine J_tryV (As := [.int q, .int g]) (st := .int 0 :: .ref (ou 0) :: []) (rc2 := 0) (rs2 := 0) C hV hT iL_shadowOf_5 lm_L_59 yc_X8_shadowOf yv_X8_shadowOf (n_X8_shadowOf hl hC) rfl rfl hq0 (wOu Z ou f) [] (by simp only [List.append_nil]) rfl ⟨Nat.le_of_ble_eq_true rfl, Nat.le_of_ble_eq_true rfl⟩ (Nat.le_of_ble_eq_true rfl) rfl rfl ?_ ?_
  · rintro _ w2 ⟨hc, rfl, hC2⟩
    refine J_st (.int (wallF (nI N) pH pF pT q g * stepsF g / 2) :: .int 0 :: .ref (ou 0) :: []) rfl ?_
    refine J_ws (wOu Z ou f ++ w2) (by simp only [List.append_nil]) ?_
    refine J_i2l C iL_shadowOf_8 ?_
    refine J_last (wOu Z ou (vp_updL f (0 : Int32).toNatClampNeg ((wallF (nI N) pH pF pT q g * stepsF g / 2).toInt64)) ++ w2) 0 C iL_shadowOf_9 rfl (vp_in_nI (n := 0) (by omega) (by decide)) rfl ?_
    rw [show Int32.toNatClampNeg 0 = 0 from rfl]
    refine J_goto 17 C iL_shadowOf_10 rfl ?_
    refine J_iconst 0 C iL_shadowOf_17 rfl ?_
    exact J_iret C E iL_shadowOf_18 ⟨by rw [hc], (vp_updL f 0 ((wallF (nI N) pH pF pT q g * stepsF g / 2).toInt64)), w2, rfl, Or.inl ⟨hc, rfl, hC2⟩⟩
  · intro E9 hE9
    obtain ⟨rfl, hc⟩ := hE9
    refine ⟨13, ⟨[], (⟨0, 10, 13, 31⟩ : ExceptionTableEntry), [], "java/lang/IndexOutOfBoundsException", rfl, fun z h => absurd h List.not_mem_nil, by decide, by decide, (tsg_in (i := 978) (by decide +kernel) rfl), (nws_in (i := 990) (by decide +kernel) rfl), rfl⟩, fun q9 => ?_⟩
    refine J_astore [(4, .ref q9), (0, .ref (x 0)), (1, .int q), (2, .int g), (3, .ref (ou 0))] C iL_shadowOf_13 (by decide) rfl ?_
    refine J_iconst 1 C iL_shadowOf_15 rfl ?_
    exact J_iret C E iL_shadowOf_16 ⟨by rw [hc], f, w0, rfl, Or.inr ⟨by rw [hc]; decide, hC⟩⟩
theorem ycw_L_shadowOf : YCW yL_shadowOf cL_shadowOf 5 (some .int) [(0, 10, 13, 31)] 4 := ⟨(tsg_in (i := 96) (by decide +kernel) rfl), (tsg_in (i := 1072) (by decide +kernel) rfl), by decide +kernel⟩
theorem ys_L_shadowOf : YS yL_shadowOf := tsg_in (i := 1071) (by decide +kernel) rfl

set_option maxRecDepth 100000 in
set_option maxHeartbeats 4000000 in
theorem k_shades {Z : GZ} {l : Launch} (hl : l.stackTraces = false) {x ou : Nat → Nat} {f : Nat → Int64} {N u tm : Nat} {er dg co : Int32} {pP pH pF pT op f1 f2 l0 tb : Nat → Int32} {hh c0 c1 c2 c3 : Nat → Nat} {q : Int32} {g : Int32} {h_ : Int32} {w0 : va_W} (hC : CI Z x N u tm er dg co pP pH pF pT op f1 f2 l0 hh c0 c1 c2 c3 tb w0) : CtL Z l yL_shades cL_shades 6 (some .int) [(0, 19, 22, 31)] (rmM 9 3 18) [.ref (x 0), .int q, .int g, .int h_, .ref (ou 0)] (wOu Z ou f ++ w0) (fun v w => v = some (.int ((if ¬ hasB (nI N) q = true then 1 else (if ¬ hasB (nI N) g = true then 1 else (if (h_ < 0 ∨ 24 ≤ h_) then 1 else 0))) : Int32)) ∧ ∃ fz w2, w = wOu Z ou fz ++ w2 ∧ ((((if ¬ hasB (nI N) q = true then 1 else (if ¬ hasB (nI N) g = true then 1 else (if (h_ < 0 ∨ 24 ≤ h_) then 1 else 0))) : Int32) = 0 ∧ fz 0 = (b2i (hhX (shX N pP pH pF pT g q) h_)).toInt64 ∧ CI Z x N u tm er dg co pP pH pF pT op f1 f2 l0 hh c0 c1 c2 c3 tb w2) ∨ (¬ ((if ¬ hasB (nI N) q = true then 1 else (if ¬ hasB (nI N) g = true then 1 else (if (h_ < 0 ∨ 24 ≤ h_) then 1 else 0))) : Int32) = 0 ∧ CI Z x N u tm er dg co pP pH pF pT op f1 f2 l0 hh c0 c1 c2 c3 tb w2))) := by
  obtain ⟨fs7, hq0⟩ := hC.head
  refine CtL.ofJ (own := RL) (nm := "shades") (lv0 := [(0, .ref (x 0)), (1, .int q), (2, .int g), (3, .int h_), (4, .ref (ou 0))]) (by decide) rfl rfl (Nat.le_of_ble_eq_true rfl) rfl (fun X hXl C E hT hV => ?_)
  subst hXl
  refine J_aload C iL_shades_0 rfl ?_
  refine J_iconst 0 C iL_shades_2 rfl ?_
  refine J_aload_n C iL_shades_3 rfl rfl ?_
  refine J_iload_n C iL_shades_4 rfl rfl ?_
  refine J_iload_n C iL_shades_5 rfl rfl ?_
  refine J_iload_n C iL_shades_6 rfl rfl ?_
  refine J_tryV (As := [.int q, .int g, .int h_]) (st := .int 0 :: .ref (ou 0) :: []) (rc2 := 0) (rs2 := 0) C hV hT iL_shades_7 lm_L_62 yc_X8_shades yv_X8_shades (n_X8_shades hl hC) rfl rfl hq0 (wOu Z ou f) [] (by simp only [List.append_nil]) rfl ⟨Nat.le_of_ble_eq_true rfl, Nat.le_of_ble_eq_true rfl⟩ (Nat.le_of_ble_eq_true rfl) rfl rfl ?_ ?_
  · rintro _ w2 ⟨hc, rfl, hC2⟩
    refine J_st (.int (b2i (hhX (shX N pP pH pF pT g q) h_)) :: .int 0 :: .ref (ou 0) :: []) rfl ?_
    refine J_ws (wOu Z ou f ++ w2) (by simp only [List.append_nil]) ?_
    refine J_ifeqb 17 C iL_shades_10 rfl (fun h10 => ?_) (fun h10 => ?_)
    · refine J_lconst 0 C iL_shades_17 rfl ?_
      refine J_last (wOu Z ou (vp_updL f (0 : Int32).toNatClampNeg 0) ++ w2) 0 C iL_shades_18 rfl (vp_in_nI (n := 0) (by omega) (by decide)) rfl ?_
      rw [show Int32.toNatClampNeg 0 = 0 from rfl]
      refine J_goto 26 C iL_shades_19 rfl ?_
      refine J_iconst 0 C iL_shades_26 rfl ?_
      exact J_iret C E iL_shades_27 ⟨by rw [hc], (vp_updL f 0 0), w2, rfl, Or.inl ⟨hc, by rw [h10]; rfl, hC2⟩⟩
    · refine J_lconst 1 C iL_shades_13 rfl ?_
      refine J_goto 18 C iL_shades_14 rfl ?_
      refine J_last (wOu Z ou (vp_updL f (0 : Int32).toNatClampNeg 1) ++ w2) 0 C iL_shades_18 rfl (vp_in_nI (n := 0) (by omega) (by decide)) rfl ?_
      rw [show Int32.toNatClampNeg 0 = 0 from rfl]
      refine J_goto 26 C iL_shades_19 rfl ?_
      refine J_iconst 0 C iL_shades_26 rfl ?_
      exact J_iret C E iL_shades_27 ⟨by rw [hc], (vp_updL f 0 1), w2, rfl, Or.inl ⟨hc, by rw [h10]; rfl, hC2⟩⟩
  · intro E9 hE9
    obtain ⟨rfl, hc⟩ := hE9
    refine ⟨22, ⟨[], (⟨0, 19, 22, 31⟩ : ExceptionTableEntry), [], "java/lang/IndexOutOfBoundsException", rfl, fun z h => absurd h List.not_mem_nil, by decide, by decide, (tsg_in (i := 978) (by decide +kernel) rfl), (nws_in (i := 990) (by decide +kernel) rfl), rfl⟩, fun q9 => ?_⟩
    refine J_astore [(5, .ref q9), (0, .ref (x 0)), (1, .int q), (2, .int g), (3, .int h_), (4, .ref (ou 0))] C iL_shades_22 (by decide) rfl ?_
    refine J_iconst 1 C iL_shades_24 rfl ?_
    exact J_iret C E iL_shades_25 ⟨by rw [hc], f, w0, rfl, Or.inr ⟨by rw [hc]; decide, hC⟩⟩
theorem ycw_L_shades : YCW yL_shades cL_shades 6 (some .int) [(0, 19, 22, 31)] 5 := ⟨(tsg_in (i := 96) (by decide +kernel) rfl), (tsg_in (i := 1083) (by decide +kernel) rfl), by decide +kernel⟩
theorem ys_L_shades : YS yL_shades := tsg_in (i := 1082) (by decide +kernel) rfl

set_option maxRecDepth 100000 in
set_option maxHeartbeats 4000000 in
theorem k_isInTheDark {Z : GZ} {l : Launch} (hl : l.stackTraces = false) {x ou : Nat → Nat} {f : Nat → Int64} {N u tm : Nat} {er dg co : Int32} {pP pH pF pT op f1 f2 l0 tb : Nat → Int32} {hh c0 c1 c2 c3 : Nat → Nat} {q : Int32} {g : Int32} {w0 : va_W} (hC : CI Z x N u tm er dg co pP pH pF pT op f1 f2 l0 hh c0 c1 c2 c3 tb w0) : CtL Z l yL_isInTheDark cL_isInTheDark 5 (some .int) [(0, 17, 20, 31)] (rmM 9 2 12) [.ref (x 0), .int q, .int g, .ref (ou 0)] (wOu Z ou f ++ w0) (fun v w => v = some (.int ((if ¬ hasB (nI N) q = true then 1 else (if (g < 0 ∨ 24 ≤ g) then 1 else 0)) : Int32)) ∧ ∃ fz w2, w = wOu Z ou fz ++ w2 ∧ ((((if ¬ hasB (nI N) q = true then 1 else (if (g < 0 ∨ 24 ≤ g) then 1 else 0)) : Int32) = 0 ∧ fz 0 = (b2i (hhX (stAt (nI N) q (dkG N pP pH pF pT) 0) g)).toInt64 ∧ CI Z x N u tm er dg co pP pH pF pT op f1 f2 l0 hh c0 c1 c2 c3 tb w2) ∨ (¬ ((if ¬ hasB (nI N) q = true then 1 else (if (g < 0 ∨ 24 ≤ g) then 1 else 0)) : Int32) = 0 ∧ CI Z x N u tm er dg co pP pH pF pT op f1 f2 l0 hh c0 c1 c2 c3 tb w2))) := by
  obtain ⟨fs7, hq0⟩ := hC.head
  refine CtL.ofJ (own := RL) (nm := "isInTheDark") (lv0 := [(0, .ref (x 0)), (1, .int q), (2, .int g), (3, .ref (ou 0))]) (by decide) rfl rfl (Nat.le_of_ble_eq_true rfl) rfl (fun X hXl C E hT hV => ?_)
  subst hXl
  refine J_aload_n C iL_isInTheDark_0 rfl rfl ?_
  refine J_iconst 0 C iL_isInTheDark_1 rfl ?_
  refine J_aload_n C iL_isInTheDark_2 rfl rfl ?_
  refine J_iload_n C iL_isInTheDark_3 rfl rfl ?_
  refine J_iload_n C iL_isInTheDark_4 rfl rfl ?_
  refine J_tryV (As := [.int q, .int g]) (st := .int 0 :: .ref (ou 0) :: []) (rc2 := 0) (rs2 := 0) C hV hT iL_isInTheDark_5 lm_L_66 yc_X8_isInTheDark yv_X8_isInTheDark (n_X8_isInTheDark hl hC) rfl rfl hq0 (wOu Z ou f) [] (by simp only [List.append_nil]) rfl ⟨Nat.le_of_ble_eq_true rfl, Nat.le_of_ble_eq_true rfl⟩ (Nat.le_of_ble_eq_true rfl) rfl rfl ?_ ?_
  · rintro _ w2 ⟨hc, rfl, hC2⟩
    refine J_st (.int (b2i (hhX (stAt (nI N) q (dkG N pP pH pF pT) 0) g)) :: .int 0 :: .ref (ou 0) :: []) rfl ?_
    refine J_ws (wOu Z ou f ++ w2) (by simp only [List.append_nil]) ?_
    refine J_ifeqb 15 C iL_isInTheDark_8 rfl (fun h8 => ?_) (fun h8 => ?_)
    · refine J_lconst 0 C iL_isInTheDark_15 rfl ?_
      refine J_last (wOu Z ou (vp_updL f (0 : Int32).toNatClampNeg 0) ++ w2) 0 C iL_isInTheDark_16 rfl (vp_in_nI (n := 0) (by omega) (by decide)) rfl ?_
      rw [show Int32.toNatClampNeg 0 = 0 from rfl]
      refine J_goto 24 C iL_isInTheDark_17 rfl ?_
      refine J_iconst 0 C iL_isInTheDark_24 rfl ?_
      exact J_iret C E iL_isInTheDark_25 ⟨by rw [hc], (vp_updL f 0 0), w2, rfl, Or.inl ⟨hc, by rw [h8]; rfl, hC2⟩⟩
    · refine J_lconst 1 C iL_isInTheDark_11 rfl ?_
      refine J_goto 16 C iL_isInTheDark_12 rfl ?_
      refine J_last (wOu Z ou (vp_updL f (0 : Int32).toNatClampNeg 1) ++ w2) 0 C iL_isInTheDark_16 rfl (vp_in_nI (n := 0) (by omega) (by decide)) rfl ?_
      rw [show Int32.toNatClampNeg 0 = 0 from rfl]
      refine J_goto 24 C iL_isInTheDark_17 rfl ?_
      refine J_iconst 0 C iL_isInTheDark_24 rfl ?_
      exact J_iret C E iL_isInTheDark_25 ⟨by rw [hc], (vp_updL f 0 1), w2, rfl, Or.inl ⟨hc, by rw [h8]; rfl, hC2⟩⟩
  · intro E9 hE9
    obtain ⟨rfl, hc⟩ := hE9
    refine ⟨20, ⟨[], (⟨0, 17, 20, 31⟩ : ExceptionTableEntry), [], "java/lang/IndexOutOfBoundsException", rfl, fun z h => absurd h List.not_mem_nil, by decide, by decide, (tsg_in (i := 978) (by decide +kernel) rfl), (nws_in (i := 990) (by decide +kernel) rfl), rfl⟩, fun q9 => ?_⟩
    refine J_astore [(4, .ref q9), (0, .ref (x 0)), (1, .int q), (2, .int g), (3, .ref (ou 0))] C iL_isInTheDark_20 (by decide) rfl ?_
    refine J_iconst 1 C iL_isInTheDark_22 rfl ?_
    exact J_iret C E iL_isInTheDark_23 ⟨by rw [hc], f, w0, rfl, Or.inr ⟨by rw [hc]; decide, hC⟩⟩
theorem ycw_L_isInTheDark : YCW yL_isInTheDark cL_isInTheDark 5 (some .int) [(0, 17, 20, 31)] 4 := ⟨(tsg_in (i := 96) (by decide +kernel) rfl), (tsg_in (i := 1090) (by decide +kernel) rfl), by decide +kernel⟩
theorem ys_L_isInTheDark : YS yL_isInTheDark := tsg_in (i := 1089) (by decide +kernel) rfl

set_option maxRecDepth 100000 in
set_option maxHeartbeats 4000000 in
theorem k_shadedBy {Z : GZ} {l : Launch} (hl : l.stackTraces = false) {x ou : Nat → Nat} {f : Nat → Int64} {N u tm : Nat} {er dg co : Int32} {pP pH pF pT op f1 f2 l0 tb : Nat → Int32} {hh c0 c1 c2 c3 : Nat → Nat} {q : Int32} {g : Int32} {w0 : va_W} (hC : CI Z x N u tm er dg co pP pH pF pT op f1 f2 l0 hh c0 c1 c2 c3 tb w0) : CtL Z l yL_shadedBy cL_shadedBy 5 (some .int) [(0, 10, 13, 31), (0, 10, 17, 13)] (rmM 9 3 18) [.ref (x 0), .int q, .int g, .ref (ou 0)] (wOu Z ou f ++ w0) (fun v w => v = some (.int ((if ¬ hasB (nI N) q = true then 1 else (if (g < 0 ∨ 24 ≤ g) then 1 else (if hhX (stAt (nI N) q (dkG N pP pH pF pT) 0) g = false then 2 else 0))) : Int32)) ∧ ∃ fz w2, w = wOu Z ou fz ++ w2 ∧ ((((if ¬ hasB (nI N) q = true then 1 else (if (g < 0 ∨ 24 ≤ g) then 1 else (if hhX (stAt (nI N) q (dkG N pP pH pF pT) 0) g = false then 2 else 0))) : Int32) = 0 ∧ fz 0 = ((oN (sbM pP (fun k => shH pP pH pF pT q.toNatClampNeg k) q.toNatClampNeg g N)) : Int32).toInt64 ∧ CI Z x N u tm er dg co pP pH pF pT op f1 f2 l0 hh c0 c1 c2 c3 tb w2) ∨ (¬ ((if ¬ hasB (nI N) q = true then 1 else (if (g < 0 ∨ 24 ≤ g) then 1 else (if hhX (stAt (nI N) q (dkG N pP pH pF pT) 0) g = false then 2 else 0))) : Int32) = 0 ∧ CI Z x N u tm er dg co pP pH pF pT op f1 f2 l0 hh c0 c1 c2 c3 tb w2))) := by
  obtain ⟨fs7, hq0⟩ := hC.head
  refine CtL.ofJ (own := RL) (nm := "shadedBy") (lv0 := [(0, .ref (x 0)), (1, .int q), (2, .int g), (3, .ref (ou 0))]) (by decide) rfl rfl (Nat.le_of_ble_eq_true rfl) rfl (fun X hXl C E hT hV => ?_)
  subst hXl
  refine J_aload_n C iL_shadedBy_0 rfl rfl ?_
  refine J_iconst 0 C iL_shadedBy_1 rfl ?_
  refine J_aload_n C iL_shadedBy_2 rfl rfl ?_
  refine J_iload_n C iL_shadedBy_3 rfl rfl ?_
  refine J_iload_n C iL_shadedBy_4 rfl rfl ?_
  refine J_tryV (As := [.int q, .int g]) (st := .int 0 :: .ref (ou 0) :: []) (rc2 := 0) (rs2 := 0) C hV hT iL_shadedBy_5 lm_L_70 yc_X8_shadedBy yv_X8_shadedBy (n_X8_shadedBy hl hC) rfl rfl hq0 (wOu Z ou f) [] (by simp only [List.append_nil]) rfl ⟨Nat.le_of_ble_eq_true rfl, Nat.le_of_ble_eq_true rfl⟩ (Nat.le_of_ble_eq_true rfl) rfl rfl ?_ ?_
  · rintro _ w2 ⟨hc, rfl, hC2⟩
    refine J_st (.int (oN (sbM pP (fun k => shH pP pH pF pT q.toNatClampNeg k) q.toNatClampNeg g N)) :: .int 0 :: .ref (ou 0) :: []) rfl ?_
    refine J_ws (wOu Z ou f ++ w2) (by simp only [List.append_nil]) ?_
    refine J_i2l C iL_shadedBy_8 ?_
    refine J_last (wOu Z ou (vp_updL f (0 : Int32).toNatClampNeg ((oN (sbM pP (fun k => shH pP pH pF pT q.toNatClampNeg k) q.toNatClampNeg g N)).toInt64)) ++ w2) 0 C iL_shadedBy_9 rfl (vp_in_nI (n := 0) (by omega) (by decide)) rfl ?_
    rw [show Int32.toNatClampNeg 0 = 0 from rfl]
    refine J_goto 21 C iL_shadedBy_10 rfl ?_
    refine J_iconst 0 C iL_shadedBy_21 rfl ?_
    exact J_iret C E iL_shadedBy_22 ⟨by rw [hc], (vp_updL f 0 ((oN (sbM pP (fun k => shH pP pH pF pT q.toNatClampNeg k) q.toNatClampNeg g N)).toInt64)), w2, rfl, Or.inl ⟨hc, rfl, hC2⟩⟩
  · intro E9 hE9
    rcases hE9 with ⟨rfl, hc⟩ | ⟨rfl, hc⟩
    · refine ⟨13, ⟨[], (⟨0, 10, 13, 31⟩ : ExceptionTableEntry), [(⟨0, 10, 17, 13⟩ : ExceptionTableEntry)], "java/lang/IndexOutOfBoundsException", rfl, fun z h => absurd h List.not_mem_nil, by decide, by decide, (tsg_in (i := 978) (by decide +kernel) rfl), (nws_in (i := 990) (by decide +kernel) rfl), rfl⟩, fun q9 => ?_⟩
      refine J_astore [(4, .ref q9), (0, .ref (x 0)), (1, .int q), (2, .int g), (3, .ref (ou 0))] C iL_shadedBy_13 (by decide) rfl ?_
      refine J_iconst 1 C iL_shadedBy_15 rfl ?_
      exact J_iret C E iL_shadedBy_16 ⟨by rw [hc], f, w0, rfl, Or.inr ⟨by rw [hc]; decide, hC⟩⟩
    · refine ⟨17, ⟨[(⟨0, 10, 13, 31⟩ : ExceptionTableEntry)], (⟨0, 10, 17, 13⟩ : ExceptionTableEntry), [], "java/lang/IllegalStateException", rfl, fun z h => by simp only [List.mem_cons, List.not_mem_nil, or_false] at h; obtain rfl := h; exact ⟨by decide, "java/lang/IndexOutOfBoundsException", (tsg_in (i := 978) (by decide +kernel) rfl), List.mem_of_getElem? (i := 0) rfl⟩, by decide, by decide, (tsg_in (i := 860) (by decide +kernel) rfl), (nws_in (i := 867) (by decide +kernel) rfl), rfl⟩, fun q9 => ?_⟩
      refine J_astore [(4, .ref q9), (0, .ref (x 0)), (1, .int q), (2, .int g), (3, .ref (ou 0))] C iL_shadedBy_17 (by decide) rfl ?_
      refine J_iconst 2 C iL_shadedBy_19 rfl ?_
      exact J_iret C E iL_shadedBy_20 ⟨by rw [hc], f, w0, rfl, Or.inr ⟨by rw [hc]; decide, hC⟩⟩
theorem ycw_L_shadedBy : YCW yL_shadedBy cL_shadedBy 5 (some .int) [(0, 10, 13, 31), (0, 10, 17, 13)] 4 := ⟨(tsg_in (i := 96) (by decide +kernel) rfl), (tsg_in (i := 1097) (by decide +kernel) rfl), by decide +kernel⟩
theorem ys_L_shadedBy : YS yL_shadedBy := tsg_in (i := 1096) (by decide +kernel) rfl

set_option maxRecDepth 100000 in
set_option maxHeartbeats 4000000 in
theorem k_housesInTheDark {Z : GZ} {l : Launch} (hl : l.stackTraces = false) {x ou : Nat → Nat} {f : Nat → Int64} {N u tm : Nat} {er dg co : Int32} {pP pH pF pT op f1 f2 l0 tb : Nat → Int32} {hh c0 c1 c2 c3 : Nat → Nat} {q : Int32} {w0 : va_W} (hC : CI Z x N u tm er dg co pP pH pF pT op f1 f2 l0 hh c0 c1 c2 c3 tb w0) : CtL Z l yL_housesInTheDark cL_housesInTheDark 4 (some .int) [(0, 9, 12, 31)] (rmM 9 1 6) [.ref (x 0), .int q, .ref (ou 0)] (wOu Z ou f ++ w0) (fun v w => v = some (.int ((if (q < 0 ∨ 24 ≤ q) then 1 else 0) : Int32)) ∧ ∃ fz w2, w = wOu Z ou fz ++ w2 ∧ ((((if (q < 0 ∨ 24 ≤ q) then 1 else 0) : Int32) = 0 ∧ fz 0 = ((nI (cntN (dkB N (dkG N pP pH pF pT) q) N)) : Int32).toInt64 ∧ CI Z x N u tm er dg co pP pH pF pT op f1 f2 l0 hh c0 c1 c2 c3 tb w2) ∨ (¬ ((if (q < 0 ∨ 24 ≤ q) then 1 else 0) : Int32) = 0 ∧ CI Z x N u tm er dg co pP pH pF pT op f1 f2 l0 hh c0 c1 c2 c3 tb w2))) := by
  obtain ⟨fs7, hq0⟩ := hC.head
  refine CtL.ofJ (own := RL) (nm := "housesInTheDark") (lv0 := [(0, .ref (x 0)), (1, .int q), (2, .ref (ou 0))]) (by decide) rfl rfl (Nat.le_of_ble_eq_true rfl) rfl (fun X hXl C E hT hV => ?_)
  subst hXl
  refine J_aload_n C iL_housesInTheDark_0 rfl rfl ?_
  refine J_iconst 0 C iL_housesInTheDark_1 rfl ?_
  refine J_aload_n C iL_housesInTheDark_2 rfl rfl ?_
  refine J_iload_n C iL_housesInTheDark_3 rfl rfl ?_
  refine J_tryV (As := [.int q]) (st := .int 0 :: .ref (ou 0) :: []) (rc2 := 0) (rs2 := 0) C hV hT iL_housesInTheDark_4 lm_L_73 yc_X8_housesInTheDark yv_X8_housesInTheDark (n_X8_housesInTheDark hl hC) rfl rfl hq0 (wOu Z ou f) [] (by simp only [List.append_nil]) rfl ⟨Nat.le_of_ble_eq_true rfl, Nat.le_of_ble_eq_true rfl⟩ (Nat.le_of_ble_eq_true rfl) rfl rfl ?_ ?_
  · rintro _ w2 ⟨hc, rfl, hC2⟩
    refine J_st (.int (nI (cntN (dkB N (dkG N pP pH pF pT) q) N)) :: .int 0 :: .ref (ou 0) :: []) rfl ?_
    refine J_ws (wOu Z ou f ++ w2) (by simp only [List.append_nil]) ?_
    refine J_i2l C iL_housesInTheDark_7 ?_
    refine J_last (wOu Z ou (vp_updL f (0 : Int32).toNatClampNeg ((nI (cntN (dkB N (dkG N pP pH pF pT) q) N)).toInt64)) ++ w2) 0 C iL_housesInTheDark_8 rfl (vp_in_nI (n := 0) (by omega) (by decide)) rfl ?_
    rw [show Int32.toNatClampNeg 0 = 0 from rfl]
    refine J_goto 15 C iL_housesInTheDark_9 rfl ?_
    refine J_iconst 0 C iL_housesInTheDark_15 rfl ?_
    exact J_iret C E iL_housesInTheDark_16 ⟨by rw [hc], (vp_updL f 0 ((nI (cntN (dkB N (dkG N pP pH pF pT) q) N)).toInt64)), w2, rfl, Or.inl ⟨hc, rfl, hC2⟩⟩
  · intro E9 hE9
    obtain ⟨rfl, hc⟩ := hE9
    refine ⟨12, ⟨[], (⟨0, 9, 12, 31⟩ : ExceptionTableEntry), [], "java/lang/IndexOutOfBoundsException", rfl, fun z h => absurd h List.not_mem_nil, by decide, by decide, (tsg_in (i := 978) (by decide +kernel) rfl), (nws_in (i := 990) (by decide +kernel) rfl), rfl⟩, fun q9 => ?_⟩
    refine J_astore_n [(3, .ref q9), (0, .ref (x 0)), (1, .int q), (2, .ref (ou 0))] C iL_housesInTheDark_12 rfl (by decide) rfl ?_
    refine J_iconst 1 C iL_housesInTheDark_13 rfl ?_
    exact J_iret C E iL_housesInTheDark_14 ⟨by rw [hc], f, w0, rfl, Or.inr ⟨by rw [hc]; decide, hC⟩⟩
theorem ycw_L_housesInTheDark : YCW yL_housesInTheDark cL_housesInTheDark 4 (some .int) [(0, 9, 12, 31)] 3 := ⟨(tsg_in (i := 96) (by decide +kernel) rfl), (tsg_in (i := 1106) (by decide +kernel) rfl), by decide +kernel⟩
theorem ys_L_housesInTheDark : YS yL_housesInTheDark := tsg_in (i := 1105) (by decide +kernel) rfl

set_option maxRecDepth 100000 in
set_option maxHeartbeats 4000000 in
theorem k_worstHouse {Z : GZ} {l : Launch} (hl : l.stackTraces = false) {x ou : Nat → Nat} {f : Nat → Int64} {N u tm : Nat} {er dg co : Int32} {pP pH pF pT op f1 f2 l0 tb : Nat → Int32} {hh c0 c1 c2 c3 : Nat → Nat} {w0 : va_W} (hC : CI Z x N u tm er dg co pP pH pF pT op f1 f2 l0 hh c0 c1 c2 c3 tb w0) : CtL Z l yL_worstHouse cL_worstHouse 3 (some .int) [(0, 8, 11, 13)] (rmM 9 1 6) [.ref (x 0), .ref (ou 0)] (wOu Z ou f ++ w0) (fun v w => v = some (.int ((if nI N = 0 then 1 else 0) : Int32)) ∧ ∃ fz w2, w = wOu Z ou fz ++ w2 ∧ ((((if nI N = 0 then 1 else 0) : Int32) = 0 ∧ fz 0 = ((nI (amx (lsI N (dkG N pP pH pF pT)) N)) : Int32).toInt64 ∧ CI Z x N u tm er dg co pP pH pF pT op f1 f2 l0 hh c0 c1 c2 c3 tb w2) ∨ (¬ ((if nI N = 0 then 1 else 0) : Int32) = 0 ∧ CI Z x N u tm er dg co pP pH pF pT op f1 f2 l0 hh c0 c1 c2 c3 tb w2))) := by
  obtain ⟨fs7, hq0⟩ := hC.head
  refine CtL.ofJ (own := RL) (nm := "worstHouse") (lv0 := [(0, .ref (x 0)), (1, .ref (ou 0))]) (by decide) rfl rfl (Nat.le_of_ble_eq_true rfl) rfl (fun X hXl C E hT hV => ?_)
  subst hXl
  refine J_aload_n C iL_worstHouse_0 rfl rfl ?_
  refine J_iconst 0 C iL_worstHouse_1 rfl ?_
  refine J_aload_n C iL_worstHouse_2 rfl rfl ?_
  refine J_tryV (As := []) (st := .int 0 :: .ref (ou 0) :: []) (rc2 := 0) (rs2 := 0) C hV hT iL_worstHouse_3 lm_L_21 yc_X8_worstHouse yv_X8_worstHouse (n_X8_worstHouse hl hC) rfl rfl hq0 (wOu Z ou f) [] (by simp only [List.append_nil]) rfl ⟨Nat.le_of_ble_eq_true rfl, Nat.le_of_ble_eq_true rfl⟩ (Nat.le_of_ble_eq_true rfl) rfl rfl ?_ ?_
  · rintro _ w2 ⟨hc, rfl, hC2⟩
    refine J_st (.int (nI (amx (lsI N (dkG N pP pH pF pT)) N)) :: .int 0 :: .ref (ou 0) :: []) rfl ?_
    refine J_ws (wOu Z ou f ++ w2) (by simp only [List.append_nil]) ?_
    refine J_i2l C iL_worstHouse_6 ?_
    refine J_last (wOu Z ou (vp_updL f (0 : Int32).toNatClampNeg ((nI (amx (lsI N (dkG N pP pH pF pT)) N)).toInt64)) ++ w2) 0 C iL_worstHouse_7 rfl (vp_in_nI (n := 0) (by omega) (by decide)) rfl ?_
    rw [show Int32.toNatClampNeg 0 = 0 from rfl]
    refine J_goto 14 C iL_worstHouse_8 rfl ?_
    refine J_iconst 0 C iL_worstHouse_14 rfl ?_
    exact J_iret C E iL_worstHouse_15 ⟨by rw [hc], (vp_updL f 0 ((nI (amx (lsI N (dkG N pP pH pF pT)) N)).toInt64)), w2, rfl, Or.inl ⟨hc, rfl, hC2⟩⟩
  · intro E9 hE9
    obtain ⟨rfl, hc⟩ := hE9
    refine ⟨11, ⟨[], (⟨0, 8, 11, 13⟩ : ExceptionTableEntry), [], "java/lang/IllegalStateException", rfl, fun z h => absurd h List.not_mem_nil, by decide, by decide, (tsg_in (i := 860) (by decide +kernel) rfl), (nws_in (i := 867) (by decide +kernel) rfl), rfl⟩, fun q9 => ?_⟩
    refine J_astore_n [(2, .ref q9), (0, .ref (x 0)), (1, .ref (ou 0))] C iL_worstHouse_11 rfl (by decide) rfl ?_
    refine J_iconst 1 C iL_worstHouse_12 rfl ?_
    exact J_iret C E iL_worstHouse_13 ⟨by rw [hc], f, w0, rfl, Or.inr ⟨by rw [hc]; decide, hC⟩⟩
theorem ycw_L_worstHouse : YCW yL_worstHouse cL_worstHouse 3 (some .int) [(0, 8, 11, 13)] 2 := ⟨(tsg_in (i := 96) (by decide +kernel) rfl), (tsg_in (i := 962) (by decide +kernel) rfl), by decide +kernel⟩
theorem ys_L_worstHouse : YS yL_worstHouse := tsg_in (i := 961) (by decide +kernel) rfl

set_option maxRecDepth 100000 in
set_option maxHeartbeats 4000000 in
theorem k_darkestWall {Z : GZ} {l : Launch} (hl : l.stackTraces = false) {x ou : Nat → Nat} {f : Nat → Int64} {N u tm : Nat} {er dg co : Int32} {pP pH pF pT op f1 f2 l0 tb : Nat → Int32} {hh c0 c1 c2 c3 : Nat → Nat} {w0 : va_W} (hC : CI Z x N u tm er dg co pP pH pF pT op f1 f2 l0 hh c0 c1 c2 c3 tb w0) : CtL Z l yL_darkestWall cL_darkestWall 3 (some .int) [(0, 8, 11, 13)] (rmM 9 1 6) [.ref (x 0), .ref (ou 0)] (wOu Z ou f ++ w0) (fun v w => v = some (.int ((if nI N = 0 then 1 else 0) : Int32)) ∧ ∃ fz w2, w = wOu Z ou fz ++ w2 ∧ ((((if nI N = 0 then 1 else 0) : Int32) = 0 ∧ fz 0 = ((nI (amx (csI N (csG N pP pH pF pT)) N)) : Int32).toInt64 ∧ CI Z x N u tm er dg co pP pH pF pT op f1 f2 l0 hh c0 c1 c2 c3 tb w2) ∨ (¬ ((if nI N = 0 then 1 else 0) : Int32) = 0 ∧ CI Z x N u tm er dg co pP pH pF pT op f1 f2 l0 hh c0 c1 c2 c3 tb w2))) := by
  obtain ⟨fs7, hq0⟩ := hC.head
  refine CtL.ofJ (own := RL) (nm := "darkestWall") (lv0 := [(0, .ref (x 0)), (1, .ref (ou 0))]) (by decide) rfl rfl (Nat.le_of_ble_eq_true rfl) rfl (fun X hXl C E hT hV => ?_)
  subst hXl
  refine J_aload_n C iL_darkestWall_0 rfl rfl ?_
  refine J_iconst 0 C iL_darkestWall_1 rfl ?_
  refine J_aload_n C iL_darkestWall_2 rfl rfl ?_
  refine J_tryV (As := []) (st := .int 0 :: .ref (ou 0) :: []) (rc2 := 0) (rs2 := 0) C hV hT iL_darkestWall_3 lm_L_25 yc_X8_darkestWall yv_X8_darkestWall (n_X8_darkestWall hl hC) rfl rfl hq0 (wOu Z ou f) [] (by simp only [List.append_nil]) rfl ⟨Nat.le_of_ble_eq_true rfl, Nat.le_of_ble_eq_true rfl⟩ (Nat.le_of_ble_eq_true rfl) rfl rfl ?_ ?_
  · rintro _ w2 ⟨hc, rfl, hC2⟩
    refine J_st (.int (nI (amx (csI N (csG N pP pH pF pT)) N)) :: .int 0 :: .ref (ou 0) :: []) rfl ?_
    refine J_ws (wOu Z ou f ++ w2) (by simp only [List.append_nil]) ?_
    refine J_i2l C iL_darkestWall_6 ?_
    refine J_last (wOu Z ou (vp_updL f (0 : Int32).toNatClampNeg ((nI (amx (csI N (csG N pP pH pF pT)) N)).toInt64)) ++ w2) 0 C iL_darkestWall_7 rfl (vp_in_nI (n := 0) (by omega) (by decide)) rfl ?_
    rw [show Int32.toNatClampNeg 0 = 0 from rfl]
    refine J_goto 14 C iL_darkestWall_8 rfl ?_
    refine J_iconst 0 C iL_darkestWall_14 rfl ?_
    exact J_iret C E iL_darkestWall_15 ⟨by rw [hc], (vp_updL f 0 ((nI (amx (csI N (csG N pP pH pF pT)) N)).toInt64)), w2, rfl, Or.inl ⟨hc, rfl, hC2⟩⟩
  · intro E9 hE9
    obtain ⟨rfl, hc⟩ := hE9
    refine ⟨11, ⟨[], (⟨0, 8, 11, 13⟩ : ExceptionTableEntry), [], "java/lang/IllegalStateException", rfl, fun z h => absurd h List.not_mem_nil, by decide, by decide, (tsg_in (i := 860) (by decide +kernel) rfl), (nws_in (i := 867) (by decide +kernel) rfl), rfl⟩, fun q9 => ?_⟩
    refine J_astore_n [(2, .ref q9), (0, .ref (x 0)), (1, .ref (ou 0))] C iL_darkestWall_11 rfl (by decide) rfl ?_
    refine J_iconst 1 C iL_darkestWall_12 rfl ?_
    exact J_iret C E iL_darkestWall_13 ⟨by rw [hc], f, w0, rfl, Or.inr ⟨by rw [hc]; decide, hC⟩⟩
theorem ycw_L_darkestWall : YCW yL_darkestWall cL_darkestWall 3 (some .int) [(0, 8, 11, 13)] 2 := ⟨(tsg_in (i := 96) (by decide +kernel) rfl), (tsg_in (i := 970) (by decide +kernel) rfl), by decide +kernel⟩
theorem ys_L_darkestWall : YS yL_darkestWall := tsg_in (i := 969) (by decide +kernel) rfl

set_option maxRecDepth 100000 in
set_option maxHeartbeats 4000000 in
theorem k_setCurfew {Z : GZ} {l : Launch} (hl : l.stackTraces = false) {x ou : Nat → Nat} {f : Nat → Int64} {N u tm : Nat} {er dg co : Int32} {pP pH pF pT op f1 f2 l0 tb : Nat → Int32} {hh c0 c1 c2 c3 : Nat → Nat} {q : Int32} {fr_ : Int32} {to_ : Int32} {w0 : va_W} (hC : CI Z x N u tm er dg co pP pH pF pT op f1 f2 l0 hh c0 c1 c2 c3 tb w0) : CtL Z l yL_setCurfew cL_setCurfew 6 (some .int) [(0, 12, 15, 31), (0, 12, 19, 19)] (rmM 9 2 12) [.ref (x 0), .int q, .int fr_, .int to_, .ref (ou 0)] (wOu Z ou f ++ w0) (fun v w => v = some (.int ((if ¬ hasB (nI N) q = true then 1 else (if (fr_ < 6 ∨ 18 < to_ ∨ to_ < fr_) then 2 else 0)) : Int32)) ∧ ∃ fz w2, w = wOu Z ou fz ++ w2 ∧ ((((if ¬ hasB (nI N) q = true then 1 else (if (fr_ < 6 ∨ 18 < to_ ∨ to_ < fr_) then 2 else 0)) : Int32) = 0 ∧ fz 0 = ((laG N pP pH (upd pF q.toNatClampNeg fr_) (upd pT q.toNatClampNeg to_)) : Int32).toInt64 ∧ CI Z x N u tm er dg co pP pH (upd pF q.toNatClampNeg fr_) (upd pT q.toNatClampNeg to_) op f1 f2 l0 hh c0 c1 c2 c3 tb w2) ∨ (¬ ((if ¬ hasB (nI N) q = true then 1 else (if (fr_ < 6 ∨ 18 < to_ ∨ to_ < fr_) then 2 else 0)) : Int32) = 0 ∧ CI Z x N u tm er dg co pP pH pF pT op f1 f2 l0 hh c0 c1 c2 c3 tb w2))) := by
  obtain ⟨fs7, hq0⟩ := hC.head
  refine CtL.ofJ (own := RL) (nm := "setCurfew") (lv0 := [(0, .ref (x 0)), (1, .int q), (2, .int fr_), (3, .int to_), (4, .ref (ou 0))]) (by decide) rfl rfl (Nat.le_of_ble_eq_true rfl) rfl (fun X hXl C E hT hV => ?_)
  subst hXl
  refine J_aload C iL_setCurfew_0 rfl ?_
  refine J_iconst 0 C iL_setCurfew_2 rfl ?_
  refine J_aload_n C iL_setCurfew_3 rfl rfl ?_
  refine J_iload_n C iL_setCurfew_4 rfl rfl ?_
  refine J_iload_n C iL_setCurfew_5 rfl rfl ?_
  refine J_iload_n C iL_setCurfew_6 rfl rfl ?_
  refine J_tryV (As := [.int q, .int fr_, .int to_]) (st := .int 0 :: .ref (ou 0) :: []) (rc2 := 0) (rs2 := 0) C hV hT iL_setCurfew_7 lm_L_76 yc_X8_setCurfew yv_X8_setCurfew (n_X8_setCurfew hl hC) rfl rfl hq0 (wOu Z ou f) [] (by simp only [List.append_nil]) rfl ⟨Nat.le_of_ble_eq_true rfl, Nat.le_of_ble_eq_true rfl⟩ (Nat.le_of_ble_eq_true rfl) rfl rfl ?_ ?_
  · rintro _ w2 ⟨hc, rfl, hC2⟩
    refine J_st (.int (laG N pP pH (upd pF q.toNatClampNeg fr_) (upd pT q.toNatClampNeg to_)) :: .int 0 :: .ref (ou 0) :: []) rfl ?_
    refine J_ws (wOu Z ou f ++ w2) (by simp only [List.append_nil]) ?_
    refine J_i2l C iL_setCurfew_10 ?_
    refine J_last (wOu Z ou (vp_updL f (0 : Int32).toNatClampNeg ((laG N pP pH (upd pF q.toNatClampNeg fr_) (upd pT q.toNatClampNeg to_)).toInt64)) ++ w2) 0 C iL_setCurfew_11 rfl (vp_in_nI (n := 0) (by omega) (by decide)) rfl ?_
    rw [show Int32.toNatClampNeg 0 = 0 from rfl]
    refine J_goto 23 C iL_setCurfew_12 rfl ?_
    refine J_iconst 0 C iL_setCurfew_23 rfl ?_
    exact J_iret C E iL_setCurfew_24 ⟨by rw [hc], (vp_updL f 0 ((laG N pP pH (upd pF q.toNatClampNeg fr_) (upd pT q.toNatClampNeg to_)).toInt64)), w2, rfl, Or.inl ⟨hc, rfl, hC2⟩⟩
  · intro E9 hE9
    rcases hE9 with ⟨rfl, hc⟩ | ⟨rfl, hc⟩
    · refine ⟨15, ⟨[], (⟨0, 12, 15, 31⟩ : ExceptionTableEntry), [(⟨0, 12, 19, 19⟩ : ExceptionTableEntry)], "java/lang/IndexOutOfBoundsException", rfl, fun z h => absurd h List.not_mem_nil, by decide, by decide, (tsg_in (i := 978) (by decide +kernel) rfl), (nws_in (i := 990) (by decide +kernel) rfl), rfl⟩, fun q9 => ?_⟩
      refine J_astore [(5, .ref q9), (0, .ref (x 0)), (1, .int q), (2, .int fr_), (3, .int to_), (4, .ref (ou 0))] C iL_setCurfew_15 (by decide) rfl ?_
      refine J_iconst 1 C iL_setCurfew_17 rfl ?_
      exact J_iret C E iL_setCurfew_18 ⟨by rw [hc], f, w0, rfl, Or.inr ⟨by rw [hc]; decide, hC⟩⟩
    · refine ⟨19, ⟨[(⟨0, 12, 15, 31⟩ : ExceptionTableEntry)], (⟨0, 12, 19, 19⟩ : ExceptionTableEntry), [], "java/lang/IllegalArgumentException", rfl, fun z h => by simp only [List.mem_cons, List.not_mem_nil, or_false] at h; obtain rfl := h; exact ⟨by decide, "java/lang/IndexOutOfBoundsException", (tsg_in (i := 978) (by decide +kernel) rfl), List.mem_of_getElem? (i := 1) rfl⟩, by decide, by decide, (tsg_in (i := 939) (by decide +kernel) rfl), (nws_in (i := 946) (by decide +kernel) rfl), rfl⟩, fun q9 => ?_⟩
      refine J_astore [(5, .ref q9), (0, .ref (x 0)), (1, .int q), (2, .int fr_), (3, .int to_), (4, .ref (ou 0))] C iL_setCurfew_19 (by decide) rfl ?_
      refine J_iconst 2 C iL_setCurfew_21 rfl ?_
      exact J_iret C E iL_setCurfew_22 ⟨by rw [hc], f, w0, rfl, Or.inr ⟨by rw [hc]; decide, hC⟩⟩
theorem ycw_L_setCurfew : YCW yL_setCurfew cL_setCurfew 6 (some .int) [(0, 12, 15, 31), (0, 12, 19, 19)] 5 := ⟨(tsg_in (i := 96) (by decide +kernel) rfl), (tsg_in (i := 1113) (by decide +kernel) rfl), by decide +kernel⟩
theorem ys_L_setCurfew : YS yL_setCurfew := tsg_in (i := 1112) (by decide +kernel) rfl

set_option maxRecDepth 100000 in
set_option maxHeartbeats 4000000 in
theorem k_endCurfew {Z : GZ} {l : Launch} (hl : l.stackTraces = false) {x ou : Nat → Nat} {f : Nat → Int64} {N u tm : Nat} {er dg co : Int32} {pP pH pF pT op f1 f2 l0 tb : Nat → Int32} {hh c0 c1 c2 c3 : Nat → Nat} {q : Int32} {w0 : va_W} (hC : CI Z x N u tm er dg co pP pH pF pT op f1 f2 l0 hh c0 c1 c2 c3 tb w0) : CtL Z l yL_endCurfew cL_endCurfew 4 (some .int) [(0, 9, 12, 31), (0, 9, 15, 13)] (rmM 9 2 12) [.ref (x 0), .int q, .ref (ou 0)] (wOu Z ou f ++ w0) (fun v w => v = some (.int ((if ¬ hasB (nI N) q = true then 1 else (if stAt (nI N) q pF (-1) = -1 then 2 else 0)) : Int32)) ∧ ∃ fz w2, w = wOu Z ou fz ++ w2 ∧ ((((if ¬ hasB (nI N) q = true then 1 else (if stAt (nI N) q pF (-1) = -1 then 2 else 0)) : Int32) = 0 ∧ fz 0 = ((laG N pP pH (upd pF q.toNatClampNeg (-1)) (upd pT q.toNatClampNeg (-1))) : Int32).toInt64 ∧ CI Z x N u tm er dg co pP pH (upd pF q.toNatClampNeg (-1)) (upd pT q.toNatClampNeg (-1)) op f1 f2 l0 hh c0 c1 c2 c3 tb w2) ∨ (¬ ((if ¬ hasB (nI N) q = true then 1 else (if stAt (nI N) q pF (-1) = -1 then 2 else 0)) : Int32) = 0 ∧ CI Z x N u tm er dg co pP pH pF pT op f1 f2 l0 hh c0 c1 c2 c3 tb w2))) := by
  obtain ⟨fs7, hq0⟩ := hC.head
  refine CtL.ofJ (own := RL) (nm := "endCurfew") (lv0 := [(0, .ref (x 0)), (1, .int q), (2, .ref (ou 0))]) (by decide) rfl rfl (Nat.le_of_ble_eq_true rfl) rfl (fun X hXl C E hT hV => ?_)
  subst hXl
  refine J_aload_n C iL_endCurfew_0 rfl rfl ?_
  refine J_iconst 0 C iL_endCurfew_1 rfl ?_
  refine J_aload_n C iL_endCurfew_2 rfl rfl ?_
  refine J_iload_n C iL_endCurfew_3 rfl rfl ?_
  refine J_tryV (As := [.int q]) (st := .int 0 :: .ref (ou 0) :: []) (rc2 := 0) (rs2 := 0) C hV hT iL_endCurfew_4 lm_L_80 yc_X8_endCurfew yv_X8_endCurfew (n_X8_endCurfew hl hC) rfl rfl hq0 (wOu Z ou f) [] (by simp only [List.append_nil]) rfl ⟨Nat.le_of_ble_eq_true rfl, Nat.le_of_ble_eq_true rfl⟩ (Nat.le_of_ble_eq_true rfl) rfl rfl ?_ ?_
  · rintro _ w2 ⟨hc, rfl, hC2⟩
    refine J_st (.int (laG N pP pH (upd pF q.toNatClampNeg (-1)) (upd pT q.toNatClampNeg (-1))) :: .int 0 :: .ref (ou 0) :: []) rfl ?_
    refine J_ws (wOu Z ou f ++ w2) (by simp only [List.append_nil]) ?_
    refine J_i2l C iL_endCurfew_7 ?_
    refine J_last (wOu Z ou (vp_updL f (0 : Int32).toNatClampNeg ((laG N pP pH (upd pF q.toNatClampNeg (-1)) (upd pT q.toNatClampNeg (-1))).toInt64)) ++ w2) 0 C iL_endCurfew_8 rfl (vp_in_nI (n := 0) (by omega) (by decide)) rfl ?_
    rw [show Int32.toNatClampNeg 0 = 0 from rfl]
    refine J_goto 18 C iL_endCurfew_9 rfl ?_
    refine J_iconst 0 C iL_endCurfew_18 rfl ?_
    exact J_iret C E iL_endCurfew_19 ⟨by rw [hc], (vp_updL f 0 ((laG N pP pH (upd pF q.toNatClampNeg (-1)) (upd pT q.toNatClampNeg (-1))).toInt64)), w2, rfl, Or.inl ⟨hc, rfl, hC2⟩⟩
  · intro E9 hE9
    rcases hE9 with ⟨rfl, hc⟩ | ⟨rfl, hc⟩
    · refine ⟨12, ⟨[], (⟨0, 9, 12, 31⟩ : ExceptionTableEntry), [(⟨0, 9, 15, 13⟩ : ExceptionTableEntry)], "java/lang/IndexOutOfBoundsException", rfl, fun z h => absurd h List.not_mem_nil, by decide, by decide, (tsg_in (i := 978) (by decide +kernel) rfl), (nws_in (i := 990) (by decide +kernel) rfl), rfl⟩, fun q9 => ?_⟩
      refine J_astore_n [(3, .ref q9), (0, .ref (x 0)), (1, .int q), (2, .ref (ou 0))] C iL_endCurfew_12 rfl (by decide) rfl ?_
      refine J_iconst 1 C iL_endCurfew_13 rfl ?_
      exact J_iret C E iL_endCurfew_14 ⟨by rw [hc], f, w0, rfl, Or.inr ⟨by rw [hc]; decide, hC⟩⟩
    · refine ⟨15, ⟨[(⟨0, 9, 12, 31⟩ : ExceptionTableEntry)], (⟨0, 9, 15, 13⟩ : ExceptionTableEntry), [], "java/lang/IllegalStateException", rfl, fun z h => by simp only [List.mem_cons, List.not_mem_nil, or_false] at h; obtain rfl := h; exact ⟨by decide, "java/lang/IndexOutOfBoundsException", (tsg_in (i := 978) (by decide +kernel) rfl), List.mem_of_getElem? (i := 0) rfl⟩, by decide, by decide, (tsg_in (i := 860) (by decide +kernel) rfl), (nws_in (i := 867) (by decide +kernel) rfl), rfl⟩, fun q9 => ?_⟩
      refine J_astore_n [(3, .ref q9), (0, .ref (x 0)), (1, .int q), (2, .ref (ou 0))] C iL_endCurfew_15 rfl (by decide) rfl ?_
      refine J_iconst 2 C iL_endCurfew_16 rfl ?_
      exact J_iret C E iL_endCurfew_17 ⟨by rw [hc], f, w0, rfl, Or.inr ⟨by rw [hc]; decide, hC⟩⟩
theorem ycw_L_endCurfew : YCW yL_endCurfew cL_endCurfew 4 (some .int) [(0, 9, 12, 31), (0, 9, 15, 13)] 3 := ⟨(tsg_in (i := 96) (by decide +kernel) rfl), (tsg_in (i := 1122) (by decide +kernel) rfl), by decide +kernel⟩
theorem ys_L_endCurfew : YS yL_endCurfew := tsg_in (i := 1121) (by decide +kernel) rfl

set_option maxRecDepth 100000 in
set_option maxHeartbeats 4000000 in
theorem k_build {Z : GZ} {l : Launch} (hl : l.stackTraces = false) {x ou : Nat → Nat} {f : Nat → Int64} {N u tm : Nat} {er dg co : Int32} {pP pH pF pT op f1 f2 l0 tb : Nat → Int32} {hh c0 c1 c2 c3 : Nat → Nat} {q : Int32} {x_ : Int32} {w0 : va_W} (hC : CI Z x N u tm er dg co pP pH pF pT op f1 f2 l0 hh c0 c1 c2 c3 tb w0) : CtL Z l yL_build cL_build 5 (some .int) [(0, 10, 13, 31), (0, 10, 17, 19)] (rmM 9 2 12) [.ref (x 0), .int q, .int x_, .ref (ou 0)] (wOu Z ou f ++ w0) (fun v w => v = some (.int ((if ¬ hasB (nI N) q = true then 1 else (if (x_ < 0 ∨ 30 < x_) then 2 else 0)) : Int32)) ∧ ∃ fz w2, w = wOu Z ou fz ++ w2 ∧ ((((if ¬ hasB (nI N) q = true then 1 else (if (x_ < 0 ∨ 30 < x_) then 2 else 0)) : Int32) = 0 ∧ fz 0 = ((stAt (nI N) q pH 0) : Int32).toInt64 ∧ CI Z x N u tm er dg co pP (upd pH q.toNatClampNeg x_) pF pT op f1 f2 l0 hh c0 c1 c2 c3 tb w2) ∨ (¬ ((if ¬ hasB (nI N) q = true then 1 else (if (x_ < 0 ∨ 30 < x_) then 2 else 0)) : Int32) = 0 ∧ CI Z x N u tm er dg co pP pH pF pT op f1 f2 l0 hh c0 c1 c2 c3 tb w2))) := by
  obtain ⟨fs7, hq0⟩ := hC.head
  refine CtL.ofJ (own := RL) (nm := "build") (lv0 := [(0, .ref (x 0)), (1, .int q), (2, .int x_), (3, .ref (ou 0))]) (by decide) rfl rfl (Nat.le_of_ble_eq_true rfl) rfl (fun X hXl C E hT hV => ?_)
  subst hXl
  refine J_aload_n C iL_build_0 rfl rfl ?_
  refine J_iconst 0 C iL_build_1 rfl ?_
  refine J_aload_n C iL_build_2 rfl rfl ?_
  refine J_iload_n C iL_build_3 rfl rfl ?_
  refine J_iload_n C iL_build_4 rfl rfl ?_
  refine J_tryV (As := [.int q, .int x_]) (st := .int 0 :: .ref (ou 0) :: []) (rc2 := 0) (rs2 := 0) C hV hT iL_build_5 lm_L_83 yc_X8_build yv_X8_build (n_X8_build hl hC) rfl rfl hq0 (wOu Z ou f) [] (by simp only [List.append_nil]) rfl ⟨Nat.le_of_ble_eq_true rfl, Nat.le_of_ble_eq_true rfl⟩ (Nat.le_of_ble_eq_true rfl) rfl rfl ?_ ?_
  · rintro _ w2 ⟨hc, rfl, hC2⟩
    refine J_st (.int (stAt (nI N) q pH 0) :: .int 0 :: .ref (ou 0) :: []) rfl ?_
    refine J_ws (wOu Z ou f ++ w2) (by simp only [List.append_nil]) ?_
    refine J_i2l C iL_build_8 ?_
    refine J_last (wOu Z ou (vp_updL f (0 : Int32).toNatClampNeg ((stAt (nI N) q pH 0).toInt64)) ++ w2) 0 C iL_build_9 rfl (vp_in_nI (n := 0) (by omega) (by decide)) rfl ?_
    rw [show Int32.toNatClampNeg 0 = 0 from rfl]
    refine J_goto 21 C iL_build_10 rfl ?_
    refine J_iconst 0 C iL_build_21 rfl ?_
    exact J_iret C E iL_build_22 ⟨by rw [hc], (vp_updL f 0 ((stAt (nI N) q pH 0).toInt64)), w2, rfl, Or.inl ⟨hc, rfl, hC2⟩⟩
  · intro E9 hE9
    rcases hE9 with ⟨rfl, hc⟩ | ⟨rfl, hc⟩
    · refine ⟨13, ⟨[], (⟨0, 10, 13, 31⟩ : ExceptionTableEntry), [(⟨0, 10, 17, 19⟩ : ExceptionTableEntry)], "java/lang/IndexOutOfBoundsException", rfl, fun z h => absurd h List.not_mem_nil, by decide, by decide, (tsg_in (i := 978) (by decide +kernel) rfl), (nws_in (i := 990) (by decide +kernel) rfl), rfl⟩, fun q9 => ?_⟩
      refine J_astore [(4, .ref q9), (0, .ref (x 0)), (1, .int q), (2, .int x_), (3, .ref (ou 0))] C iL_build_13 (by decide) rfl ?_
      refine J_iconst 1 C iL_build_15 rfl ?_
      exact J_iret C E iL_build_16 ⟨by rw [hc], f, w0, rfl, Or.inr ⟨by rw [hc]; decide, hC⟩⟩
    · refine ⟨17, ⟨[(⟨0, 10, 13, 31⟩ : ExceptionTableEntry)], (⟨0, 10, 17, 19⟩ : ExceptionTableEntry), [], "java/lang/IllegalArgumentException", rfl, fun z h => by simp only [List.mem_cons, List.not_mem_nil, or_false] at h; obtain rfl := h; exact ⟨by decide, "java/lang/IndexOutOfBoundsException", (tsg_in (i := 978) (by decide +kernel) rfl), List.mem_of_getElem? (i := 1) rfl⟩, by decide, by decide, (tsg_in (i := 939) (by decide +kernel) rfl), (nws_in (i := 946) (by decide +kernel) rfl), rfl⟩, fun q9 => ?_⟩
      refine J_astore [(4, .ref q9), (0, .ref (x 0)), (1, .int q), (2, .int x_), (3, .ref (ou 0))] C iL_build_17 (by decide) rfl ?_
      refine J_iconst 2 C iL_build_19 rfl ?_
      exact J_iret C E iL_build_20 ⟨by rw [hc], f, w0, rfl, Or.inr ⟨by rw [hc]; decide, hC⟩⟩
theorem ycw_L_build : YCW yL_build cL_build 5 (some .int) [(0, 10, 13, 31), (0, 10, 17, 19)] 4 := ⟨(tsg_in (i := 96) (by decide +kernel) rfl), (tsg_in (i := 1129) (by decide +kernel) rfl), by decide +kernel⟩
theorem ys_L_build : YS yL_build := tsg_in (i := 1128) (by decide +kernel) rfl

set_option maxRecDepth 100000 in
set_option maxHeartbeats 4000000 in
theorem k_move {Z : GZ} {l : Launch} (hl : l.stackTraces = false) {x ou : Nat → Nat} {f : Nat → Int64} {N u tm : Nat} {er dg co : Int32} {pP pH pF pT op f1 f2 l0 tb : Nat → Int32} {hh c0 c1 c2 c3 : Nat → Nat} {q : Int32} {x_ : Int32} {w0 : va_W} (hC : CI Z x N u tm er dg co pP pH pF pT op f1 f2 l0 hh c0 c1 c2 c3 tb w0) : CtL Z l yL_move cL_move 5 (some .int) [(0, 10, 13, 31), (0, 10, 17, 19), (0, 10, 21, 13)] (rmM 9 3 18) [.ref (x 0), .int q, .int x_, .ref (ou 0)] (wOu Z ou f ++ w0) (fun v w => v = some (.int ((if ¬ hasB (nI N) q = true then 1 else (if (x_ < 0 ∨ 99 < x_) then 2 else (if (∃ j, j < N ∧ ¬ nI j = q ∧ stAt (nI N) (nI j) pP (-1) = x_) then 3 else 0))) : Int32)) ∧ ∃ fz w2, w = wOu Z ou fz ++ w2 ∧ ((((if ¬ hasB (nI N) q = true then 1 else (if (x_ < 0 ∨ 99 < x_) then 2 else (if (∃ j, j < N ∧ ¬ nI j = q ∧ stAt (nI N) (nI j) pP (-1) = x_) then 3 else 0))) : Int32) = 0 ∧ fz 0 = ((stAt (nI N) q pP (-1)) : Int32).toInt64 ∧ CI Z x N u tm er dg co (upd pP q.toNatClampNeg x_) pH pF pT op f1 f2 l0 hh c0 c1 c2 c3 tb w2) ∨ (¬ ((if ¬ hasB (nI N) q = true then 1 else (if (x_ < 0 ∨ 99 < x_) then 2 else (if (∃ j, j < N ∧ ¬ nI j = q ∧ stAt (nI N) (nI j) pP (-1) = x_) then 3 else 0))) : Int32) = 0 ∧ CI Z x N u tm er dg co pP pH pF pT op f1 f2 l0 hh c0 c1 c2 c3 tb w2))) := by
  obtain ⟨fs7, hq0⟩ := hC.head
  refine CtL.ofJ (own := RL) (nm := "move") (lv0 := [(0, .ref (x 0)), (1, .int q), (2, .int x_), (3, .ref (ou 0))]) (by decide) rfl rfl (Nat.le_of_ble_eq_true rfl) rfl (fun X hXl C E hT hV => ?_)
  subst hXl
  refine J_aload_n C iL_move_0 rfl rfl ?_
  refine J_iconst 0 C iL_move_1 rfl ?_
  refine J_aload_n C iL_move_2 rfl rfl ?_
  refine J_iload_n C iL_move_3 rfl rfl ?_
  refine J_iload_n C iL_move_4 rfl rfl ?_
  refine J_tryV (As := [.int q, .int x_]) (st := .int 0 :: .ref (ou 0) :: []) (rc2 := 0) (rs2 := 0) C hV hT iL_move_5 lm_L_86 yc_X8_move yv_X8_move (n_X8_move hl hC) rfl rfl hq0 (wOu Z ou f) [] (by simp only [List.append_nil]) rfl ⟨Nat.le_of_ble_eq_true rfl, Nat.le_of_ble_eq_true rfl⟩ (Nat.le_of_ble_eq_true rfl) rfl rfl ?_ ?_
  · rintro _ w2 ⟨hc, rfl, hC2⟩
    refine J_st (.int (stAt (nI N) q pP (-1)) :: .int 0 :: .ref (ou 0) :: []) rfl ?_
    refine J_ws (wOu Z ou f ++ w2) (by simp only [List.append_nil]) ?_
    refine J_i2l C iL_move_8 ?_
    refine J_last (wOu Z ou (vp_updL f (0 : Int32).toNatClampNeg ((stAt (nI N) q pP (-1)).toInt64)) ++ w2) 0 C iL_move_9 rfl (vp_in_nI (n := 0) (by omega) (by decide)) rfl ?_
    rw [show Int32.toNatClampNeg 0 = 0 from rfl]
    refine J_goto 25 C iL_move_10 rfl ?_
    refine J_iconst 0 C iL_move_25 rfl ?_
    exact J_iret C E iL_move_26 ⟨by rw [hc], (vp_updL f 0 ((stAt (nI N) q pP (-1)).toInt64)), w2, rfl, Or.inl ⟨hc, rfl, hC2⟩⟩
  · intro E9 hE9
    rcases hE9 with ⟨rfl, hc⟩ | ⟨rfl, hc⟩ | ⟨rfl, hc⟩
    · refine ⟨13, ⟨[], (⟨0, 10, 13, 31⟩ : ExceptionTableEntry), [(⟨0, 10, 17, 19⟩ : ExceptionTableEntry), (⟨0, 10, 21, 13⟩ : ExceptionTableEntry)], "java/lang/IndexOutOfBoundsException", rfl, fun z h => absurd h List.not_mem_nil, by decide, by decide, (tsg_in (i := 978) (by decide +kernel) rfl), (nws_in (i := 990) (by decide +kernel) rfl), rfl⟩, fun q9 => ?_⟩
      refine J_astore [(4, .ref q9), (0, .ref (x 0)), (1, .int q), (2, .int x_), (3, .ref (ou 0))] C iL_move_13 (by decide) rfl ?_
      refine J_iconst 1 C iL_move_15 rfl ?_
      exact J_iret C E iL_move_16 ⟨by rw [hc], f, w0, rfl, Or.inr ⟨by rw [hc]; decide, hC⟩⟩
    · refine ⟨17, ⟨[(⟨0, 10, 13, 31⟩ : ExceptionTableEntry)], (⟨0, 10, 17, 19⟩ : ExceptionTableEntry), [(⟨0, 10, 21, 13⟩ : ExceptionTableEntry)], "java/lang/IllegalArgumentException", rfl, fun z h => by simp only [List.mem_cons, List.not_mem_nil, or_false] at h; obtain rfl := h; exact ⟨by decide, "java/lang/IndexOutOfBoundsException", (tsg_in (i := 978) (by decide +kernel) rfl), List.mem_of_getElem? (i := 1) rfl⟩, by decide, by decide, (tsg_in (i := 939) (by decide +kernel) rfl), (nws_in (i := 946) (by decide +kernel) rfl), rfl⟩, fun q9 => ?_⟩
      refine J_astore [(4, .ref q9), (0, .ref (x 0)), (1, .int q), (2, .int x_), (3, .ref (ou 0))] C iL_move_17 (by decide) rfl ?_
      refine J_iconst 2 C iL_move_19 rfl ?_
      exact J_iret C E iL_move_20 ⟨by rw [hc], f, w0, rfl, Or.inr ⟨by rw [hc]; decide, hC⟩⟩
    · refine ⟨21, ⟨[(⟨0, 10, 13, 31⟩ : ExceptionTableEntry), (⟨0, 10, 17, 19⟩ : ExceptionTableEntry)], (⟨0, 10, 21, 13⟩ : ExceptionTableEntry), [], "java/lang/IllegalStateException", rfl, fun z h => by simp only [List.mem_cons, List.not_mem_nil, or_false] at h; rcases h with rfl | rfl; exact ⟨by decide, "java/lang/IndexOutOfBoundsException", (tsg_in (i := 978) (by decide +kernel) rfl), List.mem_of_getElem? (i := 0) rfl⟩; exact ⟨by decide, "java/lang/IllegalArgumentException", (tsg_in (i := 939) (by decide +kernel) rfl), List.mem_of_getElem? (i := 2) rfl⟩, by decide, by decide, (tsg_in (i := 860) (by decide +kernel) rfl), (nws_in (i := 867) (by decide +kernel) rfl), rfl⟩, fun q9 => ?_⟩
      refine J_astore [(4, .ref q9), (0, .ref (x 0)), (1, .int q), (2, .int x_), (3, .ref (ou 0))] C iL_move_21 (by decide) rfl ?_
      refine J_iconst 3 C iL_move_23 rfl ?_
      exact J_iret C E iL_move_24 ⟨by rw [hc], f, w0, rfl, Or.inr ⟨by rw [hc]; decide, hC⟩⟩
theorem ycw_L_move : YCW yL_move cL_move 5 (some .int) [(0, 10, 13, 31), (0, 10, 17, 19), (0, 10, 21, 13)] 4 := ⟨(tsg_in (i := 96) (by decide +kernel) rfl), (tsg_in (i := 1138) (by decide +kernel) rfl), by decide +kernel⟩
theorem ys_L_move : YS yL_move := tsg_in (i := 1137) (by decide +kernel) rfl

set_option maxRecDepth 100000 in
set_option maxHeartbeats 4000000 in
theorem k_passDays {Z : GZ} {l : Launch} (hl : l.stackTraces = false) {x ou : Nat → Nat} {f : Nat → Int64} {N u tm : Nat} {er dg co : Int32} {pP pH pF pT op f1 f2 l0 tb : Nat → Int32} {hh c0 c1 c2 c3 : Nat → Nat} {q : Int32} {w0 : va_W} (hC : CI Z x N u tm er dg co pP pH pF pT op f1 f2 l0 hh c0 c1 c2 c3 tb w0) : CtL Z l yL_passDays cL_passDays 4 (some .int) [(0, 9, 12, 19)] (rmM 13 1 6) [.ref (x 0), .int q, .ref (ou 0)] (wOu Z ou f ++ w0) (fun v w => v = some (.int ((if (q < 1 ∨ 30 < q) then 1 else 0) : Int32)) ∧ ∃ fz w2, w = wOu Z ou fz ++ w2 ∧ ((((if (q < 1 ∨ 30 < q) then 1 else 0) : Int32) = 0 ∧ fz 0 = (((dyN N pP op f1 f2 l0 hh c0 c1 c2 c3 u ((pH, pF, pT), co, dg) q.toNatClampNeg).2.1 - co) : Int32).toInt64 ∧ CI Z x N u tm er ((dyN N pP op f1 f2 l0 hh c0 c1 c2 c3 u ((pH, pF, pT), co, dg) q.toNatClampNeg).2.2) ((dyN N pP op f1 f2 l0 hh c0 c1 c2 c3 u ((pH, pF, pT), co, dg) q.toNatClampNeg).2.1) pP ((dyN N pP op f1 f2 l0 hh c0 c1 c2 c3 u ((pH, pF, pT), co, dg) q.toNatClampNeg).1.1) ((dyN N pP op f1 f2 l0 hh c0 c1 c2 c3 u ((pH, pF, pT), co, dg) q.toNatClampNeg).1.2.1) ((dyN N pP op f1 f2 l0 hh c0 c1 c2 c3 u ((pH, pF, pT), co, dg) q.toNatClampNeg).1.2.2) op f1 f2 l0 hh c0 c1 c2 c3 tb w2) ∨ (¬ ((if (q < 1 ∨ 30 < q) then 1 else 0) : Int32) = 0 ∧ CI Z x N u tm er dg co pP pH pF pT op f1 f2 l0 hh c0 c1 c2 c3 tb w2))) := by
  obtain ⟨fs7, hq0⟩ := hC.head
  refine CtL.ofJ (own := RL) (nm := "passDays") (lv0 := [(0, .ref (x 0)), (1, .int q), (2, .ref (ou 0))]) (by decide) rfl rfl (Nat.le_of_ble_eq_true rfl) rfl (fun X hXl C E hT hV => ?_)
  subst hXl
  refine J_aload_n C iL_passDays_0 rfl rfl ?_
  refine J_iconst 0 C iL_passDays_1 rfl ?_
  refine J_aload_n C iL_passDays_2 rfl rfl ?_
  refine J_iload_n C iL_passDays_3 rfl rfl ?_
  refine J_tryV (As := [.int q]) (st := .int 0 :: .ref (ou 0) :: []) (rc2 := 0) (rs2 := 0) C hV hT iL_passDays_4 lm_L_89 yc_X8_passDays yv_X8_passDays (n_X8_passDays hl hC) rfl rfl hq0 (wOu Z ou f) [] (by simp only [List.append_nil]) rfl ⟨Nat.le_of_ble_eq_true rfl, Nat.le_of_ble_eq_true rfl⟩ (Nat.le_of_ble_eq_true rfl) rfl rfl ?_ ?_
  · rintro _ w2 ⟨hc, rfl, hC2⟩
    refine J_st (.int ((dyN N pP op f1 f2 l0 hh c0 c1 c2 c3 u ((pH, pF, pT), co, dg) q.toNatClampNeg).2.1 - co) :: .int 0 :: .ref (ou 0) :: []) rfl ?_
    refine J_ws (wOu Z ou f ++ w2) (by simp only [List.append_nil]) ?_
    refine J_i2l C iL_passDays_7 ?_
    refine J_last (wOu Z ou (vp_updL f (0 : Int32).toNatClampNeg (((dyN N pP op f1 f2 l0 hh c0 c1 c2 c3 u ((pH, pF, pT), co, dg) q.toNatClampNeg).2.1 - co).toInt64)) ++ w2) 0 C iL_passDays_8 rfl (vp_in_nI (n := 0) (by omega) (by decide)) rfl ?_
    rw [show Int32.toNatClampNeg 0 = 0 from rfl]
    refine J_goto 15 C iL_passDays_9 rfl ?_
    refine J_iconst 0 C iL_passDays_15 rfl ?_
    exact J_iret C E iL_passDays_16 ⟨by rw [hc], (vp_updL f 0 (((dyN N pP op f1 f2 l0 hh c0 c1 c2 c3 u ((pH, pF, pT), co, dg) q.toNatClampNeg).2.1 - co).toInt64)), w2, rfl, Or.inl ⟨hc, rfl, hC2⟩⟩
  · intro E9 hE9
    obtain ⟨rfl, hc⟩ := hE9
    refine ⟨12, ⟨[], (⟨0, 9, 12, 19⟩ : ExceptionTableEntry), [], "java/lang/IllegalArgumentException", rfl, fun z h => absurd h List.not_mem_nil, by decide, by decide, (tsg_in (i := 939) (by decide +kernel) rfl), (nws_in (i := 946) (by decide +kernel) rfl), rfl⟩, fun q9 => ?_⟩
    refine J_astore_n [(3, .ref q9), (0, .ref (x 0)), (1, .int q), (2, .ref (ou 0))] C iL_passDays_12 rfl (by decide) rfl ?_
    refine J_iconst 1 C iL_passDays_13 rfl ?_
    exact J_iret C E iL_passDays_14 ⟨by rw [hc], f, w0, rfl, Or.inr ⟨by rw [hc]; decide, hC⟩⟩
theorem ycw_L_passDays : YCW yL_passDays cL_passDays 4 (some .int) [(0, 9, 12, 19)] 3 := ⟨(tsg_in (i := 96) (by decide +kernel) rfl), (tsg_in (i := 1151) (by decide +kernel) rfl), by decide +kernel⟩
theorem ys_L_passDays : YS yL_passDays := tsg_in (i := 1150) (by decide +kernel) rfl

set_option maxRecDepth 100000 in
set_option maxHeartbeats 4000000 in
theorem k_lostAfter {Z : GZ} {l : Launch} (hl : l.stackTraces = false) {x ou : Nat → Nat} {f : Nat → Int64} {N u tm : Nat} {er dg co : Int32} {pP pH pF pT op f1 f2 l0 tb : Nat → Int32} {hh c0 c1 c2 c3 : Nat → Nat} {q : Int32} {w0 : va_W} (hC : CI Z x N u tm er dg co pP pH pF pT op f1 f2 l0 hh c0 c1 c2 c3 tb w0) : CtL Z l yL_lostAfter cL_lostAfter 4 (some .int) [(0, 9, 12, 19)] (rmM 13 1 6) [.ref (x 0), .int q, .ref (ou 0)] (wOu Z ou f ++ w0) (fun v w => v = some (.int ((if (q < 1 ∨ 30 < q) then 1 else 0) : Int32)) ∧ ∃ fz w2, w = wOu Z ou fz ++ w2 ∧ ((((if (q < 1 ∨ 30 < q) then 1 else 0) : Int32) = 0 ∧ fz 0 = ((lgD N pP (dyN N pP op f1 f2 l0 hh c0 c1 c2 c3 u ((pH, pF, pT), co, dg) q.toNatClampNeg)) : Int32).toInt64 ∧ CI Z x N u tm er dg co pP pH pF pT op f1 f2 l0 hh c0 c1 c2 c3 tb w2) ∨ (¬ ((if (q < 1 ∨ 30 < q) then 1 else 0) : Int32) = 0 ∧ CI Z x N u tm er dg co pP pH pF pT op f1 f2 l0 hh c0 c1 c2 c3 tb w2))) := by
  obtain ⟨fs7, hq0⟩ := hC.head
  refine CtL.ofJ (own := RL) (nm := "lostAfter") (lv0 := [(0, .ref (x 0)), (1, .int q), (2, .ref (ou 0))]) (by decide) rfl rfl (Nat.le_of_ble_eq_true rfl) rfl (fun X hXl C E hT hV => ?_)
  subst hXl
  refine J_aload_n C iL_lostAfter_0 rfl rfl ?_
  refine J_iconst 0 C iL_lostAfter_1 rfl ?_
  refine J_aload_n C iL_lostAfter_2 rfl rfl ?_
  refine J_iload_n C iL_lostAfter_3 rfl rfl ?_
  refine J_tryV (As := [.int q]) (st := .int 0 :: .ref (ou 0) :: []) (rc2 := 0) (rs2 := 0) C hV hT iL_lostAfter_4 lm_L_92 yc_X8_lostAfter yv_X8_lostAfter (n_X8_lostAfter hl hC) rfl rfl hq0 (wOu Z ou f) [] (by simp only [List.append_nil]) rfl ⟨Nat.le_of_ble_eq_true rfl, Nat.le_of_ble_eq_true rfl⟩ (Nat.le_of_ble_eq_true rfl) rfl rfl ?_ ?_
  · rintro _ w2 ⟨hc, rfl, hC2⟩
    refine J_st (.int (lgD N pP (dyN N pP op f1 f2 l0 hh c0 c1 c2 c3 u ((pH, pF, pT), co, dg) q.toNatClampNeg)) :: .int 0 :: .ref (ou 0) :: []) rfl ?_
    refine J_ws (wOu Z ou f ++ w2) (by simp only [List.append_nil]) ?_
    refine J_i2l C iL_lostAfter_7 ?_
    refine J_last (wOu Z ou (vp_updL f (0 : Int32).toNatClampNeg ((lgD N pP (dyN N pP op f1 f2 l0 hh c0 c1 c2 c3 u ((pH, pF, pT), co, dg) q.toNatClampNeg)).toInt64)) ++ w2) 0 C iL_lostAfter_8 rfl (vp_in_nI (n := 0) (by omega) (by decide)) rfl ?_
    rw [show Int32.toNatClampNeg 0 = 0 from rfl]
    refine J_goto 15 C iL_lostAfter_9 rfl ?_
    refine J_iconst 0 C iL_lostAfter_15 rfl ?_
    exact J_iret C E iL_lostAfter_16 ⟨by rw [hc], (vp_updL f 0 ((lgD N pP (dyN N pP op f1 f2 l0 hh c0 c1 c2 c3 u ((pH, pF, pT), co, dg) q.toNatClampNeg)).toInt64)), w2, rfl, Or.inl ⟨hc, rfl, hC2⟩⟩
  · intro E9 hE9
    obtain ⟨rfl, hc⟩ := hE9
    refine ⟨12, ⟨[], (⟨0, 9, 12, 19⟩ : ExceptionTableEntry), [], "java/lang/IllegalArgumentException", rfl, fun z h => absurd h List.not_mem_nil, by decide, by decide, (tsg_in (i := 939) (by decide +kernel) rfl), (nws_in (i := 946) (by decide +kernel) rfl), rfl⟩, fun q9 => ?_⟩
    refine J_astore_n [(3, .ref q9), (0, .ref (x 0)), (1, .int q), (2, .ref (ou 0))] C iL_lostAfter_12 rfl (by decide) rfl ?_
    refine J_iconst 1 C iL_lostAfter_13 rfl ?_
    exact J_iret C E iL_lostAfter_14 ⟨by rw [hc], f, w0, rfl, Or.inr ⟨by rw [hc]; decide, hC⟩⟩
theorem ycw_L_lostAfter : YCW yL_lostAfter cL_lostAfter 4 (some .int) [(0, 9, 12, 19)] 3 := ⟨(tsg_in (i := 96) (by decide +kernel) rfl), (tsg_in (i := 1162) (by decide +kernel) rfl), by decide +kernel⟩
theorem ys_L_lostAfter : YS yL_lostAfter := tsg_in (i := 1161) (by decide +kernel) rfl

set_option maxRecDepth 100000 in
set_option maxHeartbeats 4000000 in
theorem k_fairCurfew {Z : GZ} {l : Launch} (hl : l.stackTraces = false) {x ou : Nat → Nat} {f : Nat → Int64} {N u tm : Nat} {er dg co : Int32} {pP pH pF pT op f1 f2 l0 tb : Nat → Int32} {hh c0 c1 c2 c3 : Nat → Nat} {q : Int32} {g : Int32} {w0 : va_W} (hC : CI Z x N u tm er dg co pP pH pF pT op f1 f2 l0 hh c0 c1 c2 c3 tb w0) : CtL Z l yL_fairCurfew cL_fairCurfew 5 (some .int) [(0, 10, 13, 31), (0, 10, 17, 19)] (rmM 11 2 12) [.ref (x 0), .int q, .int g, .ref (ou 0)] (wOu Z ou f ++ w0) (fun v w => v = some (.int ((if ¬ hasB (nI N) q = true then 1 else (if (g < 1 ∨ 13 < g) then 2 else 0)) : Int32)) ∧ ∃ fz w2, w = wOu Z ou fz ++ w2 ∧ ((((if ¬ hasB (nI N) q = true then 1 else (if (g < 1 ∨ 13 < g) then 2 else 0)) : Int32) = 0 ∧ fz 0 = (((frX (fcV N pP pH pF pT g.toNatClampNeg q.toNatClampNeg) (14 - g.toNatClampNeg)).1) : Int32).toInt64 ∧ CI Z x N u tm er dg co pP pH pF pT op f1 f2 l0 hh c0 c1 c2 c3 tb w2) ∨ (¬ ((if ¬ hasB (nI N) q = true then 1 else (if (g < 1 ∨ 13 < g) then 2 else 0)) : Int32) = 0 ∧ CI Z x N u tm er dg co pP pH pF pT op f1 f2 l0 hh c0 c1 c2 c3 tb w2))) := by
  obtain ⟨fs7, hq0⟩ := hC.head
  refine CtL.ofJ (own := RL) (nm := "fairCurfew") (lv0 := [(0, .ref (x 0)), (1, .int q), (2, .int g), (3, .ref (ou 0))]) (by decide) rfl rfl (Nat.le_of_ble_eq_true rfl) rfl (fun X hXl C E hT hV => ?_)
  subst hXl
  refine J_aload_n C iL_fairCurfew_0 rfl rfl ?_
  refine J_iconst 0 C iL_fairCurfew_1 rfl ?_
  refine J_aload_n C iL_fairCurfew_2 rfl rfl ?_
  refine J_iload_n C iL_fairCurfew_3 rfl rfl ?_
  refine J_iload_n C iL_fairCurfew_4 rfl rfl ?_
  refine J_tryV (As := [.int q, .int g]) (st := .int 0 :: .ref (ou 0) :: []) (rc2 := 0) (rs2 := 0) C hV hT iL_fairCurfew_5 lm_L_95 yc_X8_fairCurfew yv_X8_fairCurfew (n_X8_fairCurfew hl hC) rfl rfl hq0 (wOu Z ou f) [] (by simp only [List.append_nil]) rfl ⟨Nat.le_of_ble_eq_true rfl, Nat.le_of_ble_eq_true rfl⟩ (Nat.le_of_ble_eq_true rfl) rfl rfl ?_ ?_
  · rintro _ w2 ⟨hc, rfl, hC2⟩
    refine J_st (.int ((frX (fcV N pP pH pF pT g.toNatClampNeg q.toNatClampNeg) (14 - g.toNatClampNeg)).1) :: .int 0 :: .ref (ou 0) :: []) rfl ?_
    refine J_ws (wOu Z ou f ++ w2) (by simp only [List.append_nil]) ?_
    refine J_i2l C iL_fairCurfew_8 ?_
    refine J_last (wOu Z ou (vp_updL f (0 : Int32).toNatClampNeg (((frX (fcV N pP pH pF pT g.toNatClampNeg q.toNatClampNeg) (14 - g.toNatClampNeg)).1).toInt64)) ++ w2) 0 C iL_fairCurfew_9 rfl (vp_in_nI (n := 0) (by omega) (by decide)) rfl ?_
    rw [show Int32.toNatClampNeg 0 = 0 from rfl]
    refine J_goto 21 C iL_fairCurfew_10 rfl ?_
    refine J_iconst 0 C iL_fairCurfew_21 rfl ?_
    exact J_iret C E iL_fairCurfew_22 ⟨by rw [hc], (vp_updL f 0 (((frX (fcV N pP pH pF pT g.toNatClampNeg q.toNatClampNeg) (14 - g.toNatClampNeg)).1).toInt64)), w2, rfl, Or.inl ⟨hc, rfl, hC2⟩⟩
  · intro E9 hE9
    rcases hE9 with ⟨rfl, hc⟩ | ⟨rfl, hc⟩
    · refine ⟨13, ⟨[], (⟨0, 10, 13, 31⟩ : ExceptionTableEntry), [(⟨0, 10, 17, 19⟩ : ExceptionTableEntry)], "java/lang/IndexOutOfBoundsException", rfl, fun z h => absurd h List.not_mem_nil, by decide, by decide, (tsg_in (i := 978) (by decide +kernel) rfl), (nws_in (i := 990) (by decide +kernel) rfl), rfl⟩, fun q9 => ?_⟩
      refine J_astore [(4, .ref q9), (0, .ref (x 0)), (1, .int q), (2, .int g), (3, .ref (ou 0))] C iL_fairCurfew_13 (by decide) rfl ?_
      refine J_iconst 1 C iL_fairCurfew_15 rfl ?_
      exact J_iret C E iL_fairCurfew_16 ⟨by rw [hc], f, w0, rfl, Or.inr ⟨by rw [hc]; decide, hC⟩⟩
    · refine ⟨17, ⟨[(⟨0, 10, 13, 31⟩ : ExceptionTableEntry)], (⟨0, 10, 17, 19⟩ : ExceptionTableEntry), [], "java/lang/IllegalArgumentException", rfl, fun z h => by simp only [List.mem_cons, List.not_mem_nil, or_false] at h; obtain rfl := h; exact ⟨by decide, "java/lang/IndexOutOfBoundsException", (tsg_in (i := 978) (by decide +kernel) rfl), List.mem_of_getElem? (i := 1) rfl⟩, by decide, by decide, (tsg_in (i := 939) (by decide +kernel) rfl), (nws_in (i := 946) (by decide +kernel) rfl), rfl⟩, fun q9 => ?_⟩
      refine J_astore [(4, .ref q9), (0, .ref (x 0)), (1, .int q), (2, .int g), (3, .ref (ou 0))] C iL_fairCurfew_17 (by decide) rfl ?_
      refine J_iconst 2 C iL_fairCurfew_19 rfl ?_
      exact J_iret C E iL_fairCurfew_20 ⟨by rw [hc], f, w0, rfl, Or.inr ⟨by rw [hc]; decide, hC⟩⟩
theorem ycw_L_fairCurfew : YCW yL_fairCurfew cL_fairCurfew 5 (some .int) [(0, 10, 13, 31), (0, 10, 17, 19)] 4 := ⟨(tsg_in (i := 96) (by decide +kernel) rfl), (tsg_in (i := 1169) (by decide +kernel) rfl), by decide +kernel⟩
theorem ys_L_fairCurfew : YS yL_fairCurfew := tsg_in (i := 1168) (by decide +kernel) rfl

set_option maxRecDepth 100000 in
set_option maxHeartbeats 4000000 in
theorem k_fairestWall {Z : GZ} {l : Launch} (hl : l.stackTraces = false) {x ou : Nat → Nat} {f : Nat → Int64} {N u tm : Nat} {er dg co : Int32} {pP pH pF pT op f1 f2 l0 tb : Nat → Int32} {hh c0 c1 c2 c3 : Nat → Nat} {g : Int32} {w0 : va_W} (hC : CI Z x N u tm er dg co pP pH pF pT op f1 f2 l0 hh c0 c1 c2 c3 tb w0) : CtL Z l yL_fairestWall cL_fairestWall 4 (some .int) [(0, 9, 12, 19)] (rmM 11 1 6) [.ref (x 0), .int g, .ref (ou 0)] (wOu Z ou f ++ w0) (fun v w => v = some (.int ((if (g < 1 ∨ 13 < g) then 1 else 0) : Int32)) ∧ ∃ fz w2, w = wOu Z ou fz ++ w2 ∧ ((((if (g < 1 ∨ 13 < g) then 1 else 0) : Int32) = 0 ∧ fz 0 = (((owX (fcV N pP pH pF pT g.toNatClampNeg) (14 - g.toNatClampNeg) (-1, laG N pP pH pF pT) N).1) : Int32).toInt64 ∧ CI Z x N u tm er dg co pP pH pF pT op f1 f2 l0 hh c0 c1 c2 c3 tb w2) ∨ (¬ ((if (g < 1 ∨ 13 < g) then 1 else 0) : Int32) = 0 ∧ CI Z x N u tm er dg co pP pH pF pT op f1 f2 l0 hh c0 c1 c2 c3 tb w2))) := by
  obtain ⟨fs7, hq0⟩ := hC.head
  refine CtL.ofJ (own := RL) (nm := "fairestWall") (lv0 := [(0, .ref (x 0)), (1, .int g), (2, .ref (ou 0))]) (by decide) rfl rfl (Nat.le_of_ble_eq_true rfl) rfl (fun X hXl C E hT hV => ?_)
  subst hXl
  refine J_aload_n C iL_fairestWall_0 rfl rfl ?_
  refine J_iconst 0 C iL_fairestWall_1 rfl ?_
  refine J_aload_n C iL_fairestWall_2 rfl rfl ?_
  refine J_iload_n C iL_fairestWall_3 rfl rfl ?_
  refine J_tryV (As := [.int g]) (st := .int 0 :: .ref (ou 0) :: []) (rc2 := 0) (rs2 := 0) C hV hT iL_fairestWall_4 lm_L_98 yc_X8_fairestWall yv_X8_fairestWall (n_X8_fairestWall hl hC) rfl rfl hq0 (wOu Z ou f) [] (by simp only [List.append_nil]) rfl ⟨Nat.le_of_ble_eq_true rfl, Nat.le_of_ble_eq_true rfl⟩ (Nat.le_of_ble_eq_true rfl) rfl rfl ?_ ?_
  · rintro _ w2 ⟨hc, rfl, hC2⟩
    refine J_st (.int ((owX (fcV N pP pH pF pT g.toNatClampNeg) (14 - g.toNatClampNeg) (-1, laG N pP pH pF pT) N).1) :: .int 0 :: .ref (ou 0) :: []) rfl ?_
    refine J_ws (wOu Z ou f ++ w2) (by simp only [List.append_nil]) ?_
    refine J_i2l C iL_fairestWall_7 ?_
    refine J_last (wOu Z ou (vp_updL f (0 : Int32).toNatClampNeg (((owX (fcV N pP pH pF pT g.toNatClampNeg) (14 - g.toNatClampNeg) (-1, laG N pP pH pF pT) N).1).toInt64)) ++ w2) 0 C iL_fairestWall_8 rfl (vp_in_nI (n := 0) (by omega) (by decide)) rfl ?_
    rw [show Int32.toNatClampNeg 0 = 0 from rfl]
    refine J_goto 15 C iL_fairestWall_9 rfl ?_
    refine J_iconst 0 C iL_fairestWall_15 rfl ?_
    exact J_iret C E iL_fairestWall_16 ⟨by rw [hc], (vp_updL f 0 (((owX (fcV N pP pH pF pT g.toNatClampNeg) (14 - g.toNatClampNeg) (-1, laG N pP pH pF pT) N).1).toInt64)), w2, rfl, Or.inl ⟨hc, rfl, hC2⟩⟩
  · intro E9 hE9
    obtain ⟨rfl, hc⟩ := hE9
    refine ⟨12, ⟨[], (⟨0, 9, 12, 19⟩ : ExceptionTableEntry), [], "java/lang/IllegalArgumentException", rfl, fun z h => absurd h List.not_mem_nil, by decide, by decide, (tsg_in (i := 939) (by decide +kernel) rfl), (nws_in (i := 946) (by decide +kernel) rfl), rfl⟩, fun q9 => ?_⟩
    refine J_astore_n [(3, .ref q9), (0, .ref (x 0)), (1, .int g), (2, .ref (ou 0))] C iL_fairestWall_12 rfl (by decide) rfl ?_
    refine J_iconst 1 C iL_fairestWall_13 rfl ?_
    exact J_iret C E iL_fairestWall_14 ⟨by rw [hc], f, w0, rfl, Or.inr ⟨by rw [hc]; decide, hC⟩⟩
theorem ycw_L_fairestWall : YCW yL_fairestWall cL_fairestWall 4 (some .int) [(0, 9, 12, 19)] 3 := ⟨(tsg_in (i := 96) (by decide +kernel) rfl), (tsg_in (i := 1180) (by decide +kernel) rfl), by decide +kernel⟩
theorem ys_L_fairestWall : YS yL_fairestWall := tsg_in (i := 1179) (by decide +kernel) rfl

set_option maxRecDepth 100000 in
set_option maxHeartbeats 4000000 in
theorem k_feed {Z : GZ} {l : Launch} (hl : l.stackTraces = false) {x ou : Nat → Nat} {f : Nat → Int64} {N u tm : Nat} {er dg co : Int32} {pP pH pF pT op f1 f2 l0 tb : Nat → Int32} {hh c0 c1 c2 c3 : Nat → Nat} {i0 : Int32} {i1 : Int32} {i2 : Int32} {i3 : Int32} {i4 : Int32} {w0 : va_W} (hC : CI Z x N u tm er dg co pP pH pF pT op f1 f2 l0 hh c0 c1 c2 c3 tb w0) : CtL Z l yL_feed cL_feed 8 (some .int) [(0, 16, 19, 13)] (rmM 9 1 6) [.ref (x 0), .int i0, .int i1, .int i2, .int i3, .int i4, .ref (ou 0)] (wOu Z ou f ++ w0) (fun v w => v = some (.int ((if ¬ tm ≤ 1980 then 1 else 0) : Int32)) ∧ ∃ fz w2, w = wOu Z ou fz ++ w2 ∧ ((((if ¬ tm ≤ 1980 then 1 else 0) : Int32) = 0 ∧ fz 0 = ((nI (tm + 20)) : Int32).toInt64 ∧ CI Z x N u (tm + 20) er dg co pP pH pF pT op f1 f2 l0 hh c0 c1 c2 c3 (apF (apF (apF (apF (apF tb tm i0) (tm + 4) i1) (tm + 8) i2) (tm + 12) i3) (tm + 16) i4) w2) ∨ (¬ ((if ¬ tm ≤ 1980 then 1 else 0) : Int32) = 0 ∧ CI Z x N u tm er dg co pP pH pF pT op f1 f2 l0 hh c0 c1 c2 c3 tb w2))) := by
  obtain ⟨fs7, hq0⟩ := hC.head
  refine CtL.ofJ (own := RL) (nm := "feed") (lv0 := [(0, .ref (x 0)), (1, .int i0), (2, .int i1), (3, .int i2), (4, .int i3), (5, .int i4), (6, .ref (ou 0))]) (by decide) rfl rfl (Nat.le_of_ble_eq_true rfl) rfl (fun X hXl C E hT hV => ?_)
  subst hXl
  refine J_aload C iL_feed_0 rfl ?_
  refine J_iconst 0 C iL_feed_2 rfl ?_
  refine J_aload_n C iL_feed_3 rfl rfl ?_
  refine J_iload_n C iL_feed_4 rfl rfl ?_
  refine J_iload_n C iL_feed_5 rfl rfl ?_
  refine J_iload_n C iL_feed_6 rfl rfl ?_
  refine J_iload C iL_feed_7 rfl ?_
  refine J_iload C iL_feed_9 rfl ?_
  refine J_tryV (As := [.int i0, .int i1, .int i2, .int i3, .int i4]) (st := .int 0 :: .ref (ou 0) :: []) (rc2 := 0) (rs2 := 0) C hV hT iL_feed_11 lm_L_7 yc_X8_feed yv_X8_feed (n_X8_feed hl hC) rfl rfl hq0 (wOu Z ou f) [] (by simp only [List.append_nil]) rfl ⟨Nat.le_of_ble_eq_true rfl, Nat.le_of_ble_eq_true rfl⟩ (Nat.le_of_ble_eq_true rfl) rfl rfl ?_ ?_
  · rintro _ w2 ⟨hc, rfl, hC2⟩
    refine J_st (.int (nI (tm + 20)) :: .int 0 :: .ref (ou 0) :: []) rfl ?_
    refine J_ws (wOu Z ou f ++ w2) (by simp only [List.append_nil]) ?_
    refine J_i2l C iL_feed_14 ?_
    refine J_last (wOu Z ou (vp_updL f (0 : Int32).toNatClampNeg ((nI (tm + 20)).toInt64)) ++ w2) 0 C iL_feed_15 rfl (vp_in_nI (n := 0) (by omega) (by decide)) rfl ?_
    rw [show Int32.toNatClampNeg 0 = 0 from rfl]
    refine J_goto 23 C iL_feed_16 rfl ?_
    refine J_iconst 0 C iL_feed_23 rfl ?_
    exact J_iret C E iL_feed_24 ⟨by rw [hc], (vp_updL f 0 ((nI (tm + 20)).toInt64)), w2, rfl, Or.inl ⟨hc, rfl, hC2⟩⟩
  · intro E9 hE9
    obtain ⟨rfl, hc⟩ := hE9
    refine ⟨19, ⟨[], (⟨0, 16, 19, 13⟩ : ExceptionTableEntry), [], "java/lang/IllegalStateException", rfl, fun z h => absurd h List.not_mem_nil, by decide, by decide, (tsg_in (i := 860) (by decide +kernel) rfl), (nws_in (i := 867) (by decide +kernel) rfl), rfl⟩, fun q9 => ?_⟩
    refine J_astore [(7, .ref q9), (0, .ref (x 0)), (1, .int i0), (2, .int i1), (3, .int i2), (4, .int i3), (5, .int i4), (6, .ref (ou 0))] C iL_feed_19 (by decide) rfl ?_
    refine J_iconst 1 C iL_feed_21 rfl ?_
    exact J_iret C E iL_feed_22 ⟨by rw [hc], f, w0, rfl, Or.inr ⟨by rw [hc]; decide, hC⟩⟩
theorem ycw_L_feed : YCW yL_feed cL_feed 8 (some .int) [(0, 16, 19, 13)] 7 := ⟨(tsg_in (i := 96) (by decide +kernel) rfl), (tsg_in (i := 859) (by decide +kernel) rfl), by decide +kernel⟩
theorem ys_L_feed : YS yL_feed := tsg_in (i := 858) (by decide +kernel) rfl

set_option maxRecDepth 100000 in
set_option maxHeartbeats 4000000 in
theorem k_trim {Z : GZ} {l : Launch} (hl : l.stackTraces = false) {x ou : Nat → Nat} {f : Nat → Int64} {N u tm : Nat} {er dg co : Int32} {pP pH pF pT op f1 f2 l0 tb : Nat → Int32} {hh c0 c1 c2 c3 : Nat → Nat} {q : Int32} {w0 : va_W} (hC : CI Z x N u tm er dg co pP pH pF pT op f1 f2 l0 hh c0 c1 c2 c3 tb w0) : CtL Z l yL_trim cL_trim 4 (some .int) [(0, 9, 12, 19)] (rmM 9 1 6) [.ref (x 0), .int q, .ref (ou 0)] (wOu Z ou f ++ w0) (fun v w => v = some (.int ((if (q < 0 ∨ nI tm < q) then 1 else 0) : Int32)) ∧ ∃ fz w2, w = wOu Z ou fz ++ w2 ∧ ((((if (q < 0 ∨ nI tm < q) then 1 else 0) : Int32) = 0 ∧ fz 0 = ((q) : Int32).toInt64 ∧ CI Z x N u q.toNatClampNeg er dg co pP pH pF pT op f1 f2 l0 hh c0 c1 c2 c3 tb w2) ∨ (¬ ((if (q < 0 ∨ nI tm < q) then 1 else 0) : Int32) = 0 ∧ CI Z x N u tm er dg co pP pH pF pT op f1 f2 l0 hh c0 c1 c2 c3 tb w2))) := by
  obtain ⟨fs7, hq0⟩ := hC.head
  refine CtL.ofJ (own := RL) (nm := "trim") (lv0 := [(0, .ref (x 0)), (1, .int q), (2, .ref (ou 0))]) (by decide) rfl rfl (Nat.le_of_ble_eq_true rfl) rfl (fun X hXl C E hT hV => ?_)
  subst hXl
  refine J_aload_n C iL_trim_0 rfl rfl ?_
  refine J_iconst 0 C iL_trim_1 rfl ?_
  refine J_aload_n C iL_trim_2 rfl rfl ?_
  refine J_iload_n C iL_trim_3 rfl rfl ?_
  refine J_tryV (As := [.int q]) (st := .int 0 :: .ref (ou 0) :: []) (rc2 := 0) (rs2 := 0) C hV hT iL_trim_4 lm_L_15 yc_X8_trim yv_X8_trim (n_X8_trim hl hC) rfl rfl hq0 (wOu Z ou f) [] (by simp only [List.append_nil]) rfl ⟨Nat.le_of_ble_eq_true rfl, Nat.le_of_ble_eq_true rfl⟩ (Nat.le_of_ble_eq_true rfl) rfl rfl ?_ ?_
  · rintro _ w2 ⟨hc, rfl, hC2⟩
    refine J_st (.int q :: .int 0 :: .ref (ou 0) :: []) rfl ?_
    refine J_ws (wOu Z ou f ++ w2) (by simp only [List.append_nil]) ?_
    refine J_i2l C iL_trim_7 ?_
    refine J_last (wOu Z ou (vp_updL f (0 : Int32).toNatClampNeg q.toInt64) ++ w2) 0 C iL_trim_8 rfl (vp_in_nI (n := 0) (by omega) (by decide)) rfl ?_
    rw [show Int32.toNatClampNeg 0 = 0 from rfl]
    refine J_goto 15 C iL_trim_9 rfl ?_
    refine J_iconst 0 C iL_trim_15 rfl ?_
    exact J_iret C E iL_trim_16 ⟨by rw [hc], (vp_updL f 0 q.toInt64), w2, rfl, Or.inl ⟨hc, rfl, hC2⟩⟩
  · intro E9 hE9
    obtain ⟨rfl, hc⟩ := hE9
    refine ⟨12, ⟨[], (⟨0, 9, 12, 19⟩ : ExceptionTableEntry), [], "java/lang/IllegalArgumentException", rfl, fun z h => absurd h List.not_mem_nil, by decide, by decide, (tsg_in (i := 939) (by decide +kernel) rfl), (nws_in (i := 946) (by decide +kernel) rfl), rfl⟩, fun q9 => ?_⟩
    refine J_astore_n [(3, .ref q9), (0, .ref (x 0)), (1, .int q), (2, .ref (ou 0))] C iL_trim_12 rfl (by decide) rfl ?_
    refine J_iconst 1 C iL_trim_13 rfl ?_
    exact J_iret C E iL_trim_14 ⟨by rw [hc], f, w0, rfl, Or.inr ⟨by rw [hc]; decide, hC⟩⟩
theorem ycw_L_trim : YCW yL_trim cL_trim 4 (some .int) [(0, 9, 12, 19)] 3 := ⟨(tsg_in (i := 96) (by decide +kernel) rfl), (tsg_in (i := 938) (by decide +kernel) rfl), by decide +kernel⟩
theorem ys_L_trim : YS yL_trim := tsg_in (i := 937) (by decide +kernel) rfl

