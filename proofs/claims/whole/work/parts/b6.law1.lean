/-- what stands at the law's head: row, registry and model of the same numbers -/
def LI (Z : GZ) (x mo ou : Nat → Nat) (w : va_W) : Prop := ∃ (f : Nat → Int64) (w1 w2 : va_W) (th : Int32) (N u tm : Nat) (er dg co : Int32) (pP pH pF pT op f1 f2 l0 : Nat → Int32) (hh c0 c1 c2 c3 : Nat → Nat) (tb : Nat → Int32), w = (wOu Z ou f ++ w1) ++ w2 ∧ CI Z x N u tm er dg co pP pH pF pT op f1 f2 l0 hh c0 c1 c2 c3 tb w1 ∧ MI Z mo th N u tm er dg co pP pH pF pT op f1 f2 l0 hh c0 c1 c2 c3 tb w2
set_option maxRecDepth 100000 in
set_option maxHeartbeats 4000000 in
/-- case 3: errorAt -/
theorem law_3 {Z : GZ} {X : CX} {Q : State → Prop} {rc rs : Nat} (C : Cx Z X cL_law 9 RL) (hV : VN (cS X)) (hl : (cL X).stackTraces = false) {b L i : Nat} {xs : Nat → Int32} (S : Sc X b L xs) (hL : L ≤ 3072) (hi : i + 6 ≤ L) {x mo ou : Nat → Nat} {f : Nat → Int64} {w1 w2 : va_W} {th : Int32} {N u tm : Nat} {er dg co : Int32} {pP pH pF pT op f1 f2 l0 tb : Nat → Int32} {hh c0 c1 c2 c3 : Nat → Nat} (hC : CI Z x N u tm er dg co pP pH pF pT op f1 f2 l0 hh c0 c1 c2 c3 tb w1) (hM : MI Z mo th N u tm er dg co pP pH pF pT op f1 f2 l0 hh c0 c1 c2 c3 tb w2) (next : ∀ w9, LI Z x mo ou w9 → Jd Z X room_1 9 Q rc rs 2021 [(4, .int (nI i)), (0, .ref b), (1, .ref (x 0)), (2, .ref (mo 0)), (3, .ref (ou 0))] [] w9) : Jd Z X room_1 9 Q (rc + 16) (rs + 3000) 377 [(4, .int (nI i)), (0, .ref b), (1, .ref (x 0)), (2, .ref (mo 0)), (3, .ref (ou 0))] [] ((wOu Z ou f ++ w1) ++ w2) := by
  refine J_aload_n C iL_law_377 rfl rfl ?_
  obtain ⟨fs1, hq1⟩ := hC.head
  refine J_cVb (ci := 7) (As := []) (st := []) (rc2 := (rc + 16)) (rs2 := (rs + 3000)) (w0 := w1) C iL_law_378 lm_L_122 yc_X8_errorAt yv_X8_errorAt (n_X8_errorAt hC) rfl rfl hq1 (wOu Z ou f) w2 (by simp only [List.append_nil]) rfl ⟨Nat.le_of_ble_eq_true rfl, Nat.le_of_ble_eq_true rfl⟩ (Nat.le_of_ble_eq_true rfl) (by show (rc + 16) = 0 + (rc + 16); omega) (by show (rs + 3000) = 0 + (rs + 3000); omega) ?_
  rintro _ w11 ⟨rfl, hC1⟩
  refine J_st (.int er :: []) rfl ?_
  refine J_ws ((wOu Z ou f ++ w11) ++ w2) rfl ?_
  refine J_aload_n C iL_law_381 rfl rfl ?_
  obtain ⟨fs2, hq2⟩ := hM.head
  refine J_cVb (ci := 9) (As := []) (st := .int er :: []) (rc2 := (rc + 16)) (rs2 := (rs + 3000)) (w0 := w2) C iL_law_382 lm_L_125 yc_X10_errorAt yv_X10_errorAt (n_X10_errorAt hM) rfl rfl hq2 (wOu Z ou f ++ w11) [] (by simp only [List.append_nil]) rfl ⟨Nat.le_of_ble_eq_true rfl, Nat.le_of_ble_eq_true rfl⟩ (Nat.le_of_ble_eq_true rfl) (by show (rc + 16) = 0 + (rc + 16); omega) (by show (rs + 3000) = 0 + (rs + 3000); omega) ?_
  rintro _ w22 ⟨rfl, hM1⟩
  refine J_st (.int er :: .int er :: []) rfl ?_
  refine J_ws ((wOu Z ou f ++ w11) ++ w22) (by simp only [List.append_nil]) ?_
  refine J_icmpeq 2021 C iL_law_385 rfl (fun h385 => ?_) (fun h385 => absurd rfl h385)
  refine J_lvm [(4, .int (nI i)), (0, .ref b), (1, .ref (x 0)), (2, .ref (mo 0)), (3, .ref (ou 0))] rfl ?_
  refine J_less rc rs (by omega) (by omega) ?_
  exact next _ ⟨f, w11, w22, _, _, _, _, _, _, _, _, _, _, _, _, _, _, _, _, _, _, _, _, _, rfl, hC1, hM1⟩

set_option maxRecDepth 100000 in
set_option maxHeartbeats 4000000 in
/-- case 4: houses -/
theorem law_4 {Z : GZ} {X : CX} {Q : State → Prop} {rc rs : Nat} (C : Cx Z X cL_law 9 RL) (hV : VN (cS X)) (hl : (cL X).stackTraces = false) {b L i : Nat} {xs : Nat → Int32} (S : Sc X b L xs) (hL : L ≤ 3072) (hi : i + 6 ≤ L) {x mo ou : Nat → Nat} {f : Nat → Int64} {w1 w2 : va_W} {th : Int32} {N u tm : Nat} {er dg co : Int32} {pP pH pF pT op f1 f2 l0 tb : Nat → Int32} {hh c0 c1 c2 c3 : Nat → Nat} (hC : CI Z x N u tm er dg co pP pH pF pT op f1 f2 l0 hh c0 c1 c2 c3 tb w1) (hM : MI Z mo th N u tm er dg co pP pH pF pT op f1 f2 l0 hh c0 c1 c2 c3 tb w2) (next : ∀ w9, LI Z x mo ou w9 → Jd Z X room_1 9 Q rc rs 2021 [(4, .int (nI i)), (0, .ref b), (1, .ref (x 0)), (2, .ref (mo 0)), (3, .ref (ou 0))] [] w9) : Jd Z X room_1 9 Q (rc + 16) (rs + 3000) 390 [(4, .int (nI i)), (0, .ref b), (1, .ref (x 0)), (2, .ref (mo 0)), (3, .ref (ou 0))] [] ((wOu Z ou f ++ w1) ++ w2) := by
  refine J_aload_n C iL_law_390 rfl rfl ?_
  obtain ⟨fs1, hq1⟩ := hC.head
  refine J_cVb (ci := 7) (As := []) (st := []) (rc2 := (rc + 16)) (rs2 := (rs + 3000)) (w0 := w1) C iL_law_391 lm_L_126 yc_X8_houses yv_X8_houses (n_X8_houses hC) rfl rfl hq1 (wOu Z ou f) w2 (by simp only [List.append_nil]) rfl ⟨Nat.le_of_ble_eq_true rfl, Nat.le_of_ble_eq_true rfl⟩ (Nat.le_of_ble_eq_true rfl) (by show (rc + 16) = 0 + (rc + 16); omega) (by show (rs + 3000) = 0 + (rs + 3000); omega) ?_
  rintro _ w11 ⟨rfl, hC1⟩
  refine J_st (.int (nI N) :: []) rfl ?_
  refine J_ws ((wOu Z ou f ++ w11) ++ w2) rfl ?_
  refine J_aload_n C iL_law_394 rfl rfl ?_
  obtain ⟨fs2, hq2⟩ := hM.head
  refine J_cVb (ci := 9) (As := []) (st := .int (nI N) :: []) (rc2 := (rc + 16)) (rs2 := (rs + 3000)) (w0 := w2) C iL_law_395 lm_L_129 yc_X10_houses yv_X10_houses (n_X10_houses hM) rfl rfl hq2 (wOu Z ou f ++ w11) [] (by simp only [List.append_nil]) rfl ⟨Nat.le_of_ble_eq_true rfl, Nat.le_of_ble_eq_true rfl⟩ (Nat.le_of_ble_eq_true rfl) (by show (rc + 16) = 0 + (rc + 16); omega) (by show (rs + 3000) = 0 + (rs + 3000); omega) ?_
  rintro _ w22 ⟨rfl, hM1⟩
  refine J_st (.int (nI N) :: .int (nI N) :: []) rfl ?_
  refine J_ws ((wOu Z ou f ++ w11) ++ w22) (by simp only [List.append_nil]) ?_
  refine J_icmpeq 2021 C iL_law_398 rfl (fun h398 => ?_) (fun h398 => absurd rfl h398)
  refine J_lvm [(4, .int (nI i)), (0, .ref b), (1, .ref (x 0)), (2, .ref (mo 0)), (3, .ref (ou 0))] rfl ?_
  refine J_less rc rs (by omega) (by omega) ?_
  exact next _ ⟨f, w11, w22, _, _, _, _, _, _, _, _, _, _, _, _, _, _, _, _, _, _, _, _, _, rfl, hC1, hM1⟩

set_option maxRecDepth 100000 in
set_option maxHeartbeats 4000000 in
/-- case 5: laws -/
theorem law_5 {Z : GZ} {X : CX} {Q : State → Prop} {rc rs : Nat} (C : Cx Z X cL_law 9 RL) (hV : VN (cS X)) (hl : (cL X).stackTraces = false) {b L i : Nat} {xs : Nat → Int32} (S : Sc X b L xs) (hL : L ≤ 3072) (hi : i + 6 ≤ L) {x mo ou : Nat → Nat} {f : Nat → Int64} {w1 w2 : va_W} {th : Int32} {N u tm : Nat} {er dg co : Int32} {pP pH pF pT op f1 f2 l0 tb : Nat → Int32} {hh c0 c1 c2 c3 : Nat → Nat} (hC : CI Z x N u tm er dg co pP pH pF pT op f1 f2 l0 hh c0 c1 c2 c3 tb w1) (hM : MI Z mo th N u tm er dg co pP pH pF pT op f1 f2 l0 hh c0 c1 c2 c3 tb w2) (next : ∀ w9, LI Z x mo ou w9 → Jd Z X room_1 9 Q rc rs 2021 [(4, .int (nI i)), (0, .ref b), (1, .ref (x 0)), (2, .ref (mo 0)), (3, .ref (ou 0))] [] w9) : Jd Z X room_1 9 Q (rc + 16) (rs + 3000) 403 [(4, .int (nI i)), (0, .ref b), (1, .ref (x 0)), (2, .ref (mo 0)), (3, .ref (ou 0))] [] ((wOu Z ou f ++ w1) ++ w2) := by
  refine J_aload_n C iL_law_403 rfl rfl ?_
  obtain ⟨fs1, hq1⟩ := hC.head
  refine J_cVb (ci := 7) (As := []) (st := []) (rc2 := (rc + 16)) (rs2 := (rs + 3000)) (w0 := w1) C iL_law_404 lm_L_130 yc_X8_laws yv_X8_laws (n_X8_laws hC) rfl rfl hq1 (wOu Z ou f) w2 (by simp only [List.append_nil]) rfl ⟨Nat.le_of_ble_eq_true rfl, Nat.le_of_ble_eq_true rfl⟩ (Nat.le_of_ble_eq_true rfl) (by show (rc + 16) = 0 + (rc + 16); omega) (by show (rs + 3000) = 0 + (rs + 3000); omega) ?_
  rintro _ w11 ⟨rfl, hC1⟩
  refine J_st (.int (nI u) :: []) rfl ?_
  refine J_ws ((wOu Z ou f ++ w11) ++ w2) rfl ?_
  refine J_aload_n C iL_law_407 rfl rfl ?_
  obtain ⟨fs2, hq2⟩ := hM.head
  refine J_cVb (ci := 9) (As := []) (st := .int (nI u) :: []) (rc2 := (rc + 16)) (rs2 := (rs + 3000)) (w0 := w2) C iL_law_408 lm_L_133 yc_X10_laws yv_X10_laws (n_X10_laws hM) rfl rfl hq2 (wOu Z ou f ++ w11) [] (by simp only [List.append_nil]) rfl ⟨Nat.le_of_ble_eq_true rfl, Nat.le_of_ble_eq_true rfl⟩ (Nat.le_of_ble_eq_true rfl) (by show (rc + 16) = 0 + (rc + 16); omega) (by show (rs + 3000) = 0 + (rs + 3000); omega) ?_
  rintro _ w22 ⟨rfl, hM1⟩
  refine J_st (.int (nI u) :: .int (nI u) :: []) rfl ?_
  refine J_ws ((wOu Z ou f ++ w11) ++ w22) (by simp only [List.append_nil]) ?_
  refine J_icmpeq 2021 C iL_law_411 rfl (fun h411 => ?_) (fun h411 => absurd rfl h411)
  refine J_lvm [(4, .int (nI i)), (0, .ref b), (1, .ref (x 0)), (2, .ref (mo 0)), (3, .ref (ou 0))] rfl ?_
  refine J_less rc rs (by omega) (by omega) ?_
  exact next _ ⟨f, w11, w22, _, _, _, _, _, _, _, _, _, _, _, _, _, _, _, _, _, _, _, _, _, rfl, hC1, hM1⟩

set_option maxRecDepth 100000 in
set_option maxHeartbeats 4000000 in
/-- case 6: days -/
theorem law_6 {Z : GZ} {X : CX} {Q : State → Prop} {rc rs : Nat} (C : Cx Z X cL_law 9 RL) (hV : VN (cS X)) (hl : (cL X).stackTraces = false) {b L i : Nat} {xs : Nat → Int32} (S : Sc X b L xs) (hL : L ≤ 3072) (hi : i + 6 ≤ L) {x mo ou : Nat → Nat} {f : Nat → Int64} {w1 w2 : va_W} {th : Int32} {N u tm : Nat} {er dg co : Int32} {pP pH pF pT op f1 f2 l0 tb : Nat → Int32} {hh c0 c1 c2 c3 : Nat → Nat} (hC : CI Z x N u tm er dg co pP pH pF pT op f1 f2 l0 hh c0 c1 c2 c3 tb w1) (hM : MI Z mo th N u tm er dg co pP pH pF pT op f1 f2 l0 hh c0 c1 c2 c3 tb w2) (next : ∀ w9, LI Z x mo ou w9 → Jd Z X room_1 9 Q rc rs 2021 [(4, .int (nI i)), (0, .ref b), (1, .ref (x 0)), (2, .ref (mo 0)), (3, .ref (ou 0))] [] w9) : Jd Z X room_1 9 Q (rc + 16) (rs + 3000) 416 [(4, .int (nI i)), (0, .ref b), (1, .ref (x 0)), (2, .ref (mo 0)), (3, .ref (ou 0))] [] ((wOu Z ou f ++ w1) ++ w2) := by
  refine J_aload_n C iL_law_416 rfl rfl ?_
  obtain ⟨fs1, hq1⟩ := hC.head
  refine J_cVb (ci := 7) (As := []) (st := []) (rc2 := (rc + 16)) (rs2 := (rs + 3000)) (w0 := w1) C iL_law_417 lm_L_134 yc_X8_days yv_X8_days (n_X8_days hC) rfl rfl hq1 (wOu Z ou f) w2 (by simp only [List.append_nil]) rfl ⟨Nat.le_of_ble_eq_true rfl, Nat.le_of_ble_eq_true rfl⟩ (Nat.le_of_ble_eq_true rfl) (by show (rc + 16) = 0 + (rc + 16); omega) (by show (rs + 3000) = 0 + (rs + 3000); omega) ?_
  rintro _ w11 ⟨rfl, hC1⟩
  refine J_st (.int dg :: []) rfl ?_
  refine J_ws ((wOu Z ou f ++ w11) ++ w2) rfl ?_
  refine J_aload_n C iL_law_420 rfl rfl ?_
  obtain ⟨fs2, hq2⟩ := hM.head
  refine J_cVb (ci := 9) (As := []) (st := .int dg :: []) (rc2 := (rc + 16)) (rs2 := (rs + 3000)) (w0 := w2) C iL_law_421 lm_L_137 yc_X10_days yv_X10_days (n_X10_days hM) rfl rfl hq2 (wOu Z ou f ++ w11) [] (by simp only [List.append_nil]) rfl ⟨Nat.le_of_ble_eq_true rfl, Nat.le_of_ble_eq_true rfl⟩ (Nat.le_of_ble_eq_true rfl) (by show (rc + 16) = 0 + (rc + 16); omega) (by show (rs + 3000) = 0 + (rs + 3000); omega) ?_
  rintro _ w22 ⟨rfl, hM1⟩
  refine J_st (.int dg :: .int dg :: []) rfl ?_
  refine J_ws ((wOu Z ou f ++ w11) ++ w22) (by simp only [List.append_nil]) ?_
  refine J_icmpeq 2021 C iL_law_424 rfl (fun h424 => ?_) (fun h424 => absurd rfl h424)
  refine J_lvm [(4, .int (nI i)), (0, .ref b), (1, .ref (x 0)), (2, .ref (mo 0)), (3, .ref (ou 0))] rfl ?_
  refine J_less rc rs (by omega) (by omega) ?_
  exact next _ ⟨f, w11, w22, _, _, _, _, _, _, _, _, _, _, _, _, _, _, _, _, _, _, _, _, _, rfl, hC1, hM1⟩

set_option maxRecDepth 100000 in
set_option maxHeartbeats 4000000 in
/-- case 7: lawsCarriedOut -/
theorem law_7 {Z : GZ} {X : CX} {Q : State → Prop} {rc rs : Nat} (C : Cx Z X cL_law 9 RL) (hV : VN (cS X)) (hl : (cL X).stackTraces = false) {b L i : Nat} {xs : Nat → Int32} (S : Sc X b L xs) (hL : L ≤ 3072) (hi : i + 6 ≤ L) {x mo ou : Nat → Nat} {f : Nat → Int64} {w1 w2 : va_W} {th : Int32} {N u tm : Nat} {er dg co : Int32} {pP pH pF pT op f1 f2 l0 tb : Nat → Int32} {hh c0 c1 c2 c3 : Nat → Nat} (hC : CI Z x N u tm er dg co pP pH pF pT op f1 f2 l0 hh c0 c1 c2 c3 tb w1) (hM : MI Z mo th N u tm er dg co pP pH pF pT op f1 f2 l0 hh c0 c1 c2 c3 tb w2) (next : ∀ w9, LI Z x mo ou w9 → Jd Z X room_1 9 Q rc rs 2021 [(4, .int (nI i)), (0, .ref b), (1, .ref (x 0)), (2, .ref (mo 0)), (3, .ref (ou 0))] [] w9) : Jd Z X room_1 9 Q (rc + 16) (rs + 3000) 429 [(4, .int (nI i)), (0, .ref b), (1, .ref (x 0)), (2, .ref (mo 0)), (3, .ref (ou 0))] [] ((wOu Z ou f ++ w1) ++ w2) := by
  refine J_aload_n C iL_law_429 rfl rfl ?_
  obtain ⟨fs1, hq1⟩ := hC.head
  refine J_cVb (ci := 7) (As := []) (st := []) (rc2 := (rc + 16)) (rs2 := (rs + 3000)) (w0 := w1) C iL_law_430 lm_L_138 yc_X8_lawsCarriedOut yv_X8_lawsCarriedOut (n_X8_lawsCarriedOut hC) rfl rfl hq1 (wOu Z ou f) w2 (by simp only [List.append_nil]) rfl ⟨Nat.le_of_ble_eq_true rfl, Nat.le_of_ble_eq_true rfl⟩ (Nat.le_of_ble_eq_true rfl) (by show (rc + 16) = 0 + (rc + 16); omega) (by show (rs + 3000) = 0 + (rs + 3000); omega) ?_
  rintro _ w11 ⟨rfl, hC1⟩
  refine J_st (.int co :: []) rfl ?_
  refine J_ws ((wOu Z ou f ++ w11) ++ w2) rfl ?_
  refine J_aload_n C iL_law_433 rfl rfl ?_
  obtain ⟨fs2, hq2⟩ := hM.head
  refine J_cVb (ci := 9) (As := []) (st := .int co :: []) (rc2 := (rc + 16)) (rs2 := (rs + 3000)) (w0 := w2) C iL_law_434 lm_L_141 yc_X10_lawsCarriedOut yv_X10_lawsCarriedOut (n_X10_lawsCarriedOut hM) rfl rfl hq2 (wOu Z ou f ++ w11) [] (by simp only [List.append_nil]) rfl ⟨Nat.le_of_ble_eq_true rfl, Nat.le_of_ble_eq_true rfl⟩ (Nat.le_of_ble_eq_true rfl) (by show (rc + 16) = 0 + (rc + 16); omega) (by show (rs + 3000) = 0 + (rs + 3000); omega) ?_
  rintro _ w22 ⟨rfl, hM1⟩
  refine J_st (.int co :: .int co :: []) rfl ?_
  refine J_ws ((wOu Z ou f ++ w11) ++ w22) (by simp only [List.append_nil]) ?_
  refine J_icmpeq 2021 C iL_law_437 rfl (fun h437 => ?_) (fun h437 => absurd rfl h437)
  refine J_lvm [(4, .int (nI i)), (0, .ref b), (1, .ref (x 0)), (2, .ref (mo 0)), (3, .ref (ou 0))] rfl ?_
  refine J_less rc rs (by omega) (by omega) ?_
  exact next _ ⟨f, w11, w22, _, _, _, _, _, _, _, _, _, _, _, _, _, _, _, _, _, _, _, _, _, rfl, hC1, hM1⟩

set_option maxRecDepth 100000 in
set_option maxHeartbeats 4000000 in
/-- case 8: allHoursLost -/
theorem law_8 {Z : GZ} {X : CX} {Q : State → Prop} {rc rs : Nat} (C : Cx Z X cL_law 9 RL) (hV : VN (cS X)) (hl : (cL X).stackTraces = false) {b L i : Nat} {xs : Nat → Int32} (S : Sc X b L xs) (hL : L ≤ 3072) (hi : i + 6 ≤ L) {x mo ou : Nat → Nat} {f : Nat → Int64} {w1 w2 : va_W} {th : Int32} {N u tm : Nat} {er dg co : Int32} {pP pH pF pT op f1 f2 l0 tb : Nat → Int32} {hh c0 c1 c2 c3 : Nat → Nat} (hC : CI Z x N u tm er dg co pP pH pF pT op f1 f2 l0 hh c0 c1 c2 c3 tb w1) (hM : MI Z mo th N u tm er dg co pP pH pF pT op f1 f2 l0 hh c0 c1 c2 c3 tb w2) (next : ∀ w9, LI Z x mo ou w9 → Jd Z X room_1 9 Q rc rs 2021 [(4, .int (nI i)), (0, .ref b), (1, .ref (x 0)), (2, .ref (mo 0)), (3, .ref (ou 0))] [] w9) : Jd Z X room_1 9 Q (rc + 16) (rs + 3000) 442 [(4, .int (nI i)), (0, .ref b), (1, .ref (x 0)), (2, .ref (mo 0)), (3, .ref (ou 0))] [] ((wOu Z ou f ++ w1) ++ w2) := by
  refine J_aload_n C iL_law_442 rfl rfl ?_
  obtain ⟨fs1, hq1⟩ := hC.head
  refine J_cVb (ci := 7) (As := []) (st := []) (rc2 := (rc + 16)) (rs2 := (rs + 3000)) (w0 := w1) C iL_law_443 lm_L_142 yc_X8_allHoursLost yv_X8_allHoursLost (n_X8_allHoursLost hC) rfl rfl hq1 (wOu Z ou f) w2 (by simp only [List.append_nil]) rfl ⟨Nat.le_of_ble_eq_true rfl, Nat.le_of_ble_eq_true rfl⟩ (Nat.le_of_ble_eq_true rfl) (by show (rc + 16) = 0 + (rc + 16); omega) (by show (rs + 3000) = 0 + (rs + 3000); omega) ?_
  rintro _ w11 ⟨rfl, hC1⟩
  refine J_st (.int (laG N pP pH pF pT) :: []) rfl ?_
  refine J_ws ((wOu Z ou f ++ w11) ++ w2) rfl ?_
  refine J_aload_n C iL_law_446 rfl rfl ?_
  obtain ⟨fs2, hq2⟩ := hM.head
  refine J_cVb (ci := 9) (As := []) (st := .int (laG N pP pH pF pT) :: []) (rc2 := (rc + 16)) (rs2 := (rs + 3000)) (w0 := w2) C iL_law_447 lm_L_145 yc_X10_allHoursLost yv_X10_allHoursLost (n_X10_allHoursLost hM) rfl rfl hq2 (wOu Z ou f ++ w11) [] (by simp only [List.append_nil]) rfl ⟨Nat.le_of_ble_eq_true rfl, Nat.le_of_ble_eq_true rfl⟩ (Nat.le_of_ble_eq_true rfl) (by show (rc + 16) = 0 + (rc + 16); omega) (by show (rs + 3000) = 0 + (rs + 3000); omega) ?_
  rintro _ w22 ⟨rfl, hM1⟩
  refine J_st (.int (laG N pP pH pF pT) :: .int (laG N pP pH pF pT) :: []) rfl ?_
  refine J_ws ((wOu Z ou f ++ w11) ++ w22) (by simp only [List.append_nil]) ?_
  refine J_icmpeq 2021 C iL_law_450 rfl (fun h450 => ?_) (fun h450 => absurd rfl h450)
  refine J_lvm [(4, .int (nI i)), (0, .ref b), (1, .ref (x 0)), (2, .ref (mo 0)), (3, .ref (ou 0))] rfl ?_
  refine J_less rc rs (by omega) (by omega) ?_
  exact next _ ⟨f, w11, w22, _, _, _, _, _, _, _, _, _, _, _, _, _, _, _, _, _, _, _, _, _, rfl, hC1, hM1⟩

set_option maxRecDepth 100000 in
set_option maxHeartbeats 4000000 in
/-- case 9: lightHouses -/
theorem law_9 {Z : GZ} {X : CX} {Q : State → Prop} {rc rs : Nat} (C : Cx Z X cL_law 9 RL) (hV : VN (cS X)) (hl : (cL X).stackTraces = false) {b L i : Nat} {xs : Nat → Int32} (S : Sc X b L xs) (hL : L ≤ 3072) (hi : i + 6 ≤ L) {x mo ou : Nat → Nat} {f : Nat → Int64} {w1 w2 : va_W} {th : Int32} {N u tm : Nat} {er dg co : Int32} {pP pH pF pT op f1 f2 l0 tb : Nat → Int32} {hh c0 c1 c2 c3 : Nat → Nat} (hC : CI Z x N u tm er dg co pP pH pF pT op f1 f2 l0 hh c0 c1 c2 c3 tb w1) (hM : MI Z mo th N u tm er dg co pP pH pF pT op f1 f2 l0 hh c0 c1 c2 c3 tb w2) (next : ∀ w9, LI Z x mo ou w9 → Jd Z X room_1 9 Q rc rs 2021 [(4, .int (nI i)), (0, .ref b), (1, .ref (x 0)), (2, .ref (mo 0)), (3, .ref (ou 0))] [] w9) : Jd Z X room_1 9 Q (rc + 16) (rs + 3000) 455 [(4, .int (nI i)), (0, .ref b), (1, .ref (x 0)), (2, .ref (mo 0)), (3, .ref (ou 0))] [] ((wOu Z ou f ++ w1) ++ w2) := by
  refine J_aload_n C iL_law_455 rfl rfl ?_
  obtain ⟨fs1, hq1⟩ := hC.head
  refine J_cVb (ci := 7) (As := []) (st := []) (rc2 := (rc + 16)) (rs2 := (rs + 3000)) (w0 := w1) C iL_law_456 lm_L_146 yc_X8_lightHouses yv_X8_lightHouses (n_X8_lightHouses hC) rfl rfl hq1 (wOu Z ou f) w2 (by simp only [List.append_nil]) rfl ⟨Nat.le_of_ble_eq_true rfl, Nat.le_of_ble_eq_true rfl⟩ (Nat.le_of_ble_eq_true rfl) (by show (rc + 16) = 0 + (rc + 16); omega) (by show (rs + 3000) = 0 + (rs + 3000); omega) ?_
  rintro _ w11 ⟨rfl, hC1⟩
  refine J_st (.int (nI (cntN (ltB N (dkG N pP pH pF pT)) N)) :: []) rfl ?_
  refine J_ws ((wOu Z ou f ++ w11) ++ w2) rfl ?_
  refine J_aload_n C iL_law_459 rfl rfl ?_
  obtain ⟨fs2, hq2⟩ := hM.head
  refine J_cVb (ci := 9) (As := []) (st := .int (nI (cntN (ltB N (dkG N pP pH pF pT)) N)) :: []) (rc2 := (rc + 16)) (rs2 := (rs + 3000)) (w0 := w2) C iL_law_460 lm_L_149 yc_X10_lightHouses yv_X10_lightHouses (n_X10_lightHouses hM) rfl rfl hq2 (wOu Z ou f ++ w11) [] (by simp only [List.append_nil]) rfl ⟨Nat.le_of_ble_eq_true rfl, Nat.le_of_ble_eq_true rfl⟩ (Nat.le_of_ble_eq_true rfl) (by show (rc + 16) = 0 + (rc + 16); omega) (by show (rs + 3000) = 0 + (rs + 3000); omega) ?_
  rintro _ w22 ⟨rfl, hM1⟩
  refine J_st (.int (nI (cntN (ltB N (dkG N pP pH pF pT)) N)) :: .int (nI (cntN (ltB N (dkG N pP pH pF pT)) N)) :: []) rfl ?_
  refine J_ws ((wOu Z ou f ++ w11) ++ w22) (by simp only [List.append_nil]) ?_
  refine J_icmpeq 2021 C iL_law_463 rfl (fun h463 => ?_) (fun h463 => absurd rfl h463)
  refine J_lvm [(4, .int (nI i)), (0, .ref b), (1, .ref (x 0)), (2, .ref (mo 0)), (3, .ref (ou 0))] rfl ?_
  refine J_less rc rs (by omega) (by omega) ?_
  exact next _ ⟨f, w11, w22, _, _, _, _, _, _, _, _, _, _, _, _, _, _, _, _, _, _, _, _, _, rfl, hC1, hM1⟩

set_option maxRecDepth 100000 in
set_option maxHeartbeats 4000000 in
/-- case 32: daysUntilLight -/
theorem law_32 {Z : GZ} {X : CX} {Q : State → Prop} {rc rs : Nat} (C : Cx Z X cL_law 9 RL) (hV : VN (cS X)) (hl : (cL X).stackTraces = false) {b L i : Nat} {xs : Nat → Int32} (S : Sc X b L xs) (hL : L ≤ 3072) (hi : i + 6 ≤ L) {x mo ou : Nat → Nat} {f : Nat → Int64} {w1 w2 : va_W} {th : Int32} {N u tm : Nat} {er dg co : Int32} {pP pH pF pT op f1 f2 l0 tb : Nat → Int32} {hh c0 c1 c2 c3 : Nat → Nat} (hC : CI Z x N u tm er dg co pP pH pF pT op f1 f2 l0 hh c0 c1 c2 c3 tb w1) (hM : MI Z mo th N u tm er dg co pP pH pF pT op f1 f2 l0 hh c0 c1 c2 c3 tb w2) (next : ∀ w9, LI Z x mo ou w9 → Jd Z X room_1 9 Q rc rs 2021 [(4, .int (nI i)), (0, .ref b), (1, .ref (x 0)), (2, .ref (mo 0)), (3, .ref (ou 0))] [] w9) : Jd Z X room_1 9 Q (rc + 16) (rs + 3000) 1829 [(4, .int (nI i)), (0, .ref b), (1, .ref (x 0)), (2, .ref (mo 0)), (3, .ref (ou 0))] [] ((wOu Z ou f ++ w1) ++ w2) := by
  refine J_aload_n C iL_law_1829 rfl rfl ?_
  obtain ⟨fs1, hq1⟩ := hC.head
  refine J_cVb (ci := 7) (As := []) (st := []) (rc2 := (rc + 16)) (rs2 := (rs + 3000)) (w0 := w1) C iL_law_1830 lm_L_219 yc_X8_daysUntilLight yv_X8_daysUntilLight (n_X8_daysUntilLight hC) rfl rfl hq1 (wOu Z ou f) w2 (by simp only [List.append_nil]) rfl ⟨Nat.le_of_ble_eq_true rfl, Nat.le_of_ble_eq_true rfl⟩ (Nat.le_of_ble_eq_true rfl) (by show (rc + 16) = 0 + (rc + 16); omega) (by show (rs + 3000) = 0 + (rs + 3000); omega) ?_
  rintro _ w11 ⟨rfl, hC1⟩
  refine J_st (.int (duX N pP op f1 f2 l0 hh c0 c1 c2 c3 u ((pH, pF, pT), co, dg)) :: []) rfl ?_
  refine J_ws ((wOu Z ou f ++ w11) ++ w2) rfl ?_
  refine J_aload_n C iL_law_1833 rfl rfl ?_
  obtain ⟨fs2, hq2⟩ := hM.head
  refine J_cVb (ci := 9) (As := []) (st := .int (duX N pP op f1 f2 l0 hh c0 c1 c2 c3 u ((pH, pF, pT), co, dg)) :: []) (rc2 := (rc + 16)) (rs2 := (rs + 3000)) (w0 := w2) C iL_law_1834 lm_L_222 yc_X10_daysUntilLight yv_X10_daysUntilLight (n_X10_daysUntilLight hM) rfl rfl hq2 (wOu Z ou f ++ w11) [] (by simp only [List.append_nil]) rfl ⟨Nat.le_of_ble_eq_true rfl, Nat.le_of_ble_eq_true rfl⟩ (Nat.le_of_ble_eq_true rfl) (by show (rc + 16) = 0 + (rc + 16); omega) (by show (rs + 3000) = 0 + (rs + 3000); omega) ?_
  rintro _ w22 ⟨rfl, hM1⟩
  refine J_st (.int (duX N pP op f1 f2 l0 hh c0 c1 c2 c3 u ((pH, pF, pT), co, dg)) :: .int (duX N pP op f1 f2 l0 hh c0 c1 c2 c3 u ((pH, pF, pT), co, dg)) :: []) rfl ?_
  refine J_ws ((wOu Z ou f ++ w11) ++ w22) (by simp only [List.append_nil]) ?_
  refine J_icmpeq 2021 C iL_law_1837 rfl (fun h1837 => ?_) (fun h1837 => absurd rfl h1837)
  refine J_lvm [(4, .int (nI i)), (0, .ref b), (1, .ref (x 0)), (2, .ref (mo 0)), (3, .ref (ou 0))] rfl ?_
  refine J_less rc rs (by omega) (by omega) ?_
  exact next _ ⟨f, w11, w22, _, _, _, _, _, _, _, _, _, _, _, _, _, _, _, _, _, _, _, _, _, rfl, hC1, hM1⟩

set_option maxRecDepth 100000 in
set_option maxHeartbeats 4000000 in
/-- case 36: digest -/
theorem law_36 {Z : GZ} {X : CX} {Q : State → Prop} {rc rs : Nat} (C : Cx Z X cL_law 9 RL) (hV : VN (cS X)) (hl : (cL X).stackTraces = false) {b L i : Nat} {xs : Nat → Int32} (S : Sc X b L xs) (hL : L ≤ 3072) (hi : i + 6 ≤ L) {x mo ou : Nat → Nat} {f : Nat → Int64} {w1 w2 : va_W} {th : Int32} {N u tm : Nat} {er dg co : Int32} {pP pH pF pT op f1 f2 l0 tb : Nat → Int32} {hh c0 c1 c2 c3 : Nat → Nat} (hC : CI Z x N u tm er dg co pP pH pF pT op f1 f2 l0 hh c0 c1 c2 c3 tb w1) (hM : MI Z mo th N u tm er dg co pP pH pF pT op f1 f2 l0 hh c0 c1 c2 c3 tb w2) (next : ∀ w9, LI Z x mo ou w9 → Jd Z X room_1 9 Q rc rs 2021 [(4, .int (nI i)), (0, .ref b), (1, .ref (x 0)), (2, .ref (mo 0)), (3, .ref (ou 0))] [] w9) : Jd Z X room_1 9 Q (rc + 16) (rs + 3000) 2007 [(4, .int (nI i)), (0, .ref b), (1, .ref (x 0)), (2, .ref (mo 0)), (3, .ref (ou 0))] [] ((wOu Z ou f ++ w1) ++ w2) := by
  refine J_aload_n C iL_law_2007 rfl rfl ?_
  obtain ⟨fs1, hq1⟩ := hC.head
  refine J_cVb (ci := 7) (As := []) (st := []) (rc2 := (rc + 16)) (rs2 := (rs + 3000)) (w0 := w1) C iL_law_2008 lm_L_234 yc_X8_digest yv_X8_digest (n_X8_digest hC) rfl rfl hq1 (wOu Z ou f) w2 (by simp only [List.append_nil]) rfl ⟨Nat.le_of_ble_eq_true rfl, Nat.le_of_ble_eq_true rfl⟩ (Nat.le_of_ble_eq_true rfl) (by show (rc + 16) = 0 + (rc + 16); omega) (by show (rs + 3000) = 0 + (rs + 3000); omega) ?_
  rintro _ w11 ⟨rfl, hC1⟩
  refine J_st (.long (dgMR (fun h => inM (dkM N pP pH pF pT) h N) (dgMO pP pH pF pT (lsM N pP pH pF pT) (ctM N pP pH pF pT) (fun a b => bitC (lkM pP pH pF pT a b)) N (dgA (dgA (dgA (dgA (dgA (dgA 1013 (nI N)) (nI u)) dg) co) (laG N pP pH pF pT)) (nI (cntN (ltB N (dkG N pP pH pF pT)) N))) N) 13) :: []) rfl ?_
  refine J_ws ((wOu Z ou f ++ w11) ++ w2) rfl ?_
  refine J_aload_n C iL_law_2011 rfl rfl ?_
  obtain ⟨fs2, hq2⟩ := hM.head
  refine J_cVb (ci := 9) (As := []) (st := .long (dgMR (fun h => inM (dkM N pP pH pF pT) h N) (dgMO pP pH pF pT (lsM N pP pH pF pT) (ctM N pP pH pF pT) (fun a b => bitC (lkM pP pH pF pT a b)) N (dgA (dgA (dgA (dgA (dgA (dgA 1013 (nI N)) (nI u)) dg) co) (laG N pP pH pF pT)) (nI (cntN (ltB N (dkG N pP pH pF pT)) N))) N) 13) :: []) (rc2 := (rc + 15)) (rs2 := (rs + 2994)) (w0 := w2) C iL_law_2012 lm_L_238 yc_X10_digest yv_X10_digest (n_X10_digest hM) rfl rfl hq2 (wOu Z ou f ++ w11) [] (by simp only [List.append_nil]) rfl ⟨Nat.le_of_ble_eq_true rfl, Nat.le_of_ble_eq_true rfl⟩ (Nat.le_of_ble_eq_true rfl) (by show (rc + 16) = 1 + (rc + 15); omega) (by show (rs + 3000) = 6 + (rs + 2994); omega) ?_
  rintro _ w22 ⟨rfl, hM1⟩
  refine J_st (.long (dgMR (fun h => inM (dkM N pP pH pF pT) h N) (dgMO pP pH pF pT (lsM N pP pH pF pT) (ctM N pP pH pF pT) (fun a b => bitC (lkM pP pH pF pT a b)) N (dgA (dgA (dgA (dgA (dgA (dgA 1013 (nI N)) (nI u)) dg) co) (laG N pP pH pF pT)) (nI (cntN (ltB N (dkG N pP pH pF pT)) N))) N) 13) :: .long (dgMR (fun h => inM (dkM N pP pH pF pT) h N) (dgMO pP pH pF pT (lsM N pP pH pF pT) (ctM N pP pH pF pT) (fun a b => bitC (lkM pP pH pF pT a b)) N (dgA (dgA (dgA (dgA (dgA (dgA 1013 (nI N)) (nI u)) dg) co) (laG N pP pH pF pT)) (nI (cntN (ltB N (dkG N pP pH pF pT)) N))) N) 13) :: []) rfl ?_
  refine J_ws ((wOu Z ou f ++ w11) ++ w22) (by simp only [List.append_nil]) ?_
  refine J_lcmp C iL_law_2015 ?_
  refine J_ifeqL 2021 C iL_law_2016 rfl (fun h2016 => ?_) (fun h2016 => absurd rfl h2016)
  refine J_lvm [(4, .int (nI i)), (0, .ref b), (1, .ref (x 0)), (2, .ref (mo 0)), (3, .ref (ou 0))] rfl ?_
  refine J_less rc rs (by omega) (by omega) ?_
  exact next _ ⟨f, w11, w22, _, _, _, _, _, _, _, _, _, _, _, _, _, _, _, _, _, _, _, _, _, rfl, hC1, hM1⟩

