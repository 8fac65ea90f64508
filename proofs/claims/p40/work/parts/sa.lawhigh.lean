set_option maxRecDepth 100000 in
set_option maxHeartbeats 4000000 in
theorem law_high {Z : GZ} {X : CX} {Q : State → Prop} {rc rs : Nat} {x : Nat → Nat} {u tm : Nat} {er : Int32} {pP pH pF pT op f1 f2 l0 tb : Nat → Int32} {hh c0 c1 c2 c3 : Nat → Nat} {s hA lA oA tA eA : Nat} {rw lr p h f t : Nat → Nat} {fo ft fe : Nat → Option Nat} {L : List TC} {dy ca : Int32} {wc : va_W} {t9 tm9 oq : Nat} {x9 : Int32} {dg9 : Int64} (C : Cx Z X cL_law 29 RL) (hl : (cL X).stackTraces = false) (hC : CI Z x (toN Z) u tm er dy ca pP pH pF pT op f1 f2 l0 hh c0 c1 c2 c3 tb wc) (eq0 : EqS (toN Z) pP pH pF pT p h f t) (ok0 : SnOk (toN Z) p h f t) (hdg : dgCn (toN Z) u dy ca pP pH pF pT = dg9) (hoq : oq < toN Z) (next : ∀ w9, CI Z x (toN Z) u tm er dy ca pP pH pF pT op f1 f2 l0 hh c0 c1 c2 c3 tb w9 → Jd Z X room_1 29 Q rc rs 1029 [(9, .int (nI (alN p h f t (toN Z)))), (7, .long dg9), (6, .int x9), (5, .int (nI tm9)), (4, .int (nI (toN Z))), (3, .ref s), (2, .ref t9), (1, .ref (x 0)), (0, .ref (zms Z 3))] [] ((((wSim Z s (toN Z) (toM Z) hA lA oA tA eA (fun j => some (rw j)) (fun j => some (lr j)) fo ft fe dy ca ++ wRw Z (toN Z) rw p h f t) ++ wPl Z L) ++ wLr Z (toM Z) lr (toK Z) (toV Z)) ++ w9)) : Jd Z X room_1 29 Q (12 + 1 * (rc + 0)) (72 + 1 * (rs + 0)) 945 [(13, .int (nI oq)), (9, .int (nI (alN p h f t (toN Z)))), (7, .long dg9), (6, .int x9), (5, .int (nI tm9)), (4, .int (nI (toN Z))), (3, .ref s), (2, .ref t9), (1, .ref (x 0)), (0, .ref (zms Z 3))] [] ((((wSim Z s (toN Z) (toM Z) hA lA oA tA eA (fun j => some (rw j)) (fun j => some (lr j)) fo ft fe dy ca ++ wRw Z (toN Z) rw p h f t) ++ wPl Z L) ++ wLr Z (toM Z) lr (toK Z) (toV Z)) ++ wc) := by
  have hto := toN_in Z
  have hq9 := ok0.2 oq hoq
  refine J_aload_n C iL_law_945 rfl rfl ?_
  refine J_iload C iL_law_946 rfl ?_
  obtain ⟨fs1, hf1⟩ := CI.head hC
  refine J_room (rc2 := 1 + (11 + 1 * (rc + 0))) (rs2 := 6 + (66 + 1 * (rs + 0))) (by omega) (by omega) ?_
  refine J_cVb (As := [.int (nI oq)]) (st := []) (rc2 := 11 + 1 * (rc + 0)) (rs2 := 66 + 1 * (rs + 0)) (w0 := (wc)) (q0 := 0) C iL_law_948 lm_L_225 yc_X8_castBy yv_X8_castBy (k_castBy hl hC eq0 ok0 (a := oq) hoq) rfl rfl hf1 (((wSim Z s (toN Z) (toM Z) hA lA oA tA eA (fun j => some (rw j)) (fun j => some (lr j)) fo ft fe dy ca ++ wRw Z (toN Z) rw p h f t) ++ wPl Z L) ++ wLr Z (toM Z) lr (toK Z) (toV Z)) [] (by simp only [List.append_assoc, List.append_nil, List.nil_append]) rfl ⟨Nat.le_of_ble_eq_true rfl, Nat.le_of_ble_eq_true rfl⟩ (Nat.le_of_ble_eq_true rfl) rfl rfl ?_
  rintro _ w1 ⟨rfl, hC1⟩
  refine J_st (.int (nI (caN p h f t (toN Z) oq)) :: []) rfl ?_
  refine J_ws ((((wSim Z s (toN Z) (toM Z) hA lA oA tA eA (fun j => some (rw j)) (fun j => some (lr j)) fo ft fe dy ca ++ wRw Z (toN Z) rw p h f t) ++ wPl Z L) ++ wLr Z (toM Z) lr (toK Z) (toV Z)) ++ w1) (by simp only [List.append_assoc, List.append_nil, List.nil_append]) ?_
  refine J_istore [(21, .int (nI (caN p h f t (toN Z) oq))), (13, .int (nI oq)), (9, .int (nI (alN p h f t (toN Z)))), (7, .long dg9), (6, .int x9), (5, .int (nI tm9)), (4, .int (nI (toN Z))), (3, .ref s), (2, .ref t9), (1, .ref (x 0)), (0, .ref (zms Z 3))] C iL_law_951 (by decide) rfl ?_
  refine J_aload_n C iL_law_953 rfl rfl ?_
  refine J_iload C iL_law_954 rfl ?_
  obtain ⟨fs2, hf2⟩ := CI.head hC1
  refine J_room (rc2 := 1 + (10 + 1 * (rc + 0))) (rs2 := 6 + (60 + 1 * (rs + 0))) (by omega) (by omega) ?_
  refine J_cVb (As := [.int (nI oq)]) (st := []) (rc2 := 10 + 1 * (rc + 0)) (rs2 := 60 + 1 * (rs + 0)) (w0 := (w1)) (q0 := 0) C iL_law_956 lm_L_228 yc_X8_hoursLost yv_X8_hoursLost (k_hoursLost hl hC1 eq0 ok0 (a := oq) hoq) rfl rfl hf2 (((wSim Z s (toN Z) (toM Z) hA lA oA tA eA (fun j => some (rw j)) (fun j => some (lr j)) fo ft fe dy ca ++ wRw Z (toN Z) rw p h f t) ++ wPl Z L) ++ wLr Z (toM Z) lr (toK Z) (toV Z)) [] (by simp only [List.append_assoc, List.append_nil, List.nil_append]) rfl ⟨Nat.le_of_ble_eq_true rfl, Nat.le_of_ble_eq_true rfl⟩ (Nat.le_of_ble_eq_true rfl) rfl rfl ?_
  rintro _ w2 ⟨rfl, hC2⟩
  refine J_st (.int (nI (loN p h f t (toN Z) oq)) :: []) rfl ?_
  refine J_ws ((((wSim Z s (toN Z) (toM Z) hA lA oA tA eA (fun j => some (rw j)) (fun j => some (lr j)) fo ft fe dy ca ++ wRw Z (toN Z) rw p h f t) ++ wPl Z L) ++ wLr Z (toM Z) lr (toK Z) (toV Z)) ++ w2) (by simp only [List.append_assoc, List.append_nil, List.nil_append]) ?_
  refine J_istore [(22, .int (nI (loN p h f t (toN Z) oq))), (21, .int (nI (caN p h f t (toN Z) oq))), (13, .int (nI oq)), (9, .int (nI (alN p h f t (toN Z)))), (7, .long dg9), (6, .int x9), (5, .int (nI tm9)), (4, .int (nI (toN Z))), (3, .ref s), (2, .ref t9), (1, .ref (x 0)), (0, .ref (zms Z 3))] C iL_law_959 (by decide) rfl ?_
  refine J_aload_n C iL_law_961 rfl rfl ?_
  refine J_iload C iL_law_962 rfl ?_
  obtain ⟨fs3, hf3⟩ := CI.head hC2
  refine J_room (rc2 := 1 + (9 + 1 * (rc + 0))) (rs2 := 6 + (54 + 1 * (rs + 0))) (by omega) (by omega) ?_
  refine J_cVb (As := [.int (nI oq)]) (st := []) (rc2 := 9 + 1 * (rc + 0)) (rs2 := 54 + 1 * (rs + 0)) (w0 := (w2)) (q0 := 0) C iL_law_964 lm_L_198 yc_X8_heightOf yv_X8_heightOf (k_heightOf hl hC2 eq0 ok0 (a := oq) hoq) rfl rfl hf3 (((wSim Z s (toN Z) (toM Z) hA lA oA tA eA (fun j => some (rw j)) (fun j => some (lr j)) fo ft fe dy ca ++ wRw Z (toN Z) rw p h f t) ++ wPl Z L) ++ wLr Z (toM Z) lr (toK Z) (toV Z)) [] (by simp only [List.append_assoc, List.append_nil, List.nil_append]) rfl ⟨Nat.le_of_ble_eq_true rfl, Nat.le_of_ble_eq_true rfl⟩ (Nat.le_of_ble_eq_true rfl) rfl rfl ?_
  rintro _ w3 ⟨rfl, hC3⟩
  refine J_st (.int (nI (h oq)) :: []) rfl ?_
  refine J_ws ((((wSim Z s (toN Z) (toM Z) hA lA oA tA eA (fun j => some (rw j)) (fun j => some (lr j)) fo ft fe dy ca ++ wRw Z (toN Z) rw p h f t) ++ wPl Z L) ++ wLr Z (toM Z) lr (toK Z) (toV Z)) ++ w3) (by simp only [List.append_assoc, List.append_nil, List.nil_append]) ?_
  refine J_istore [(23, .int (nI (h oq))), (22, .int (nI (loN p h f t (toN Z) oq))), (21, .int (nI (caN p h f t (toN Z) oq))), (13, .int (nI oq)), (9, .int (nI (alN p h f t (toN Z)))), (7, .long dg9), (6, .int x9), (5, .int (nI tm9)), (4, .int (nI (toN Z))), (3, .ref s), (2, .ref t9), (1, .ref (x 0)), (0, .ref (zms Z 3))] C iL_law_967 (by decide) rfl ?_
  refine J_aload_n C iL_law_969 rfl rfl ?_
  refine J_iload C iL_law_970 rfl ?_
  refine J_bipush 30 C iL_law_972 rfl ?_
  obtain ⟨fs4, hf4⟩ := CI.head hC3
  refine J_room (rc2 := 2 + (7 + 1 * (rc + 0))) (rs2 := 12 + (42 + 1 * (rs + 0))) (by omega) (by omega) ?_
  refine J_cVb (As := [.int (nI oq), .int 30]) (st := []) (rc2 := 7 + 1 * (rc + 0)) (rs2 := 42 + 1 * (rs + 0)) (w0 := (w3)) (q0 := 0) C iL_law_974 lm_L_147 yc_X8_build yv_X8_build (k_build hl hC3 eq0 ok0 (a := oq) (y := 30) hoq (by omega)) rfl rfl hf4 (((wSim Z s (toN Z) (toM Z) hA lA oA tA eA (fun j => some (rw j)) (fun j => some (lr j)) fo ft fe dy ca ++ wRw Z (toN Z) rw p h f t) ++ wPl Z L) ++ wLr Z (toM Z) lr (toK Z) (toV Z)) [] (by simp only [List.append_assoc, List.append_nil, List.nil_append]) rfl ⟨Nat.le_of_ble_eq_true rfl, Nat.le_of_ble_eq_true rfl⟩ (Nat.le_of_ble_eq_true rfl) rfl rfl ?_
  rintro _ w4 ⟨rfl, hC4⟩
  refine J_st (.int (nI (h oq)) :: []) rfl ?_
  refine J_ws ((((wSim Z s (toN Z) (toM Z) hA lA oA tA eA (fun j => some (rw j)) (fun j => some (lr j)) fo ft fe dy ca ++ wRw Z (toN Z) rw p h f t) ++ wPl Z L) ++ wLr Z (toM Z) lr (toK Z) (toV Z)) ++ w4) (by simp only [List.append_assoc, List.append_nil, List.nil_append]) ?_
  have eq4 := EqS.upH (a := oq) (x := 30) eq0
  have ok4 := SnOk.upH (a := oq) (x := 30) ok0 (Nat.le_refl _)
  refine J_iload C iL_law_977 rfl ?_
  refine J_icmpne 1027 C iL_law_979 rfl (fun h979 => absurd rfl h979) (fun h979 => ?_)
  refine J_aload_n C iL_law_982 rfl rfl ?_
  refine J_iload C iL_law_983 rfl ?_
  obtain ⟨fs5, hf5⟩ := CI.head hC4
  refine J_room (rc2 := 1 + (6 + 1 * (rc + 0))) (rs2 := 6 + (36 + 1 * (rs + 0))) (by omega) (by omega) ?_
  refine J_cVb (As := [.int (nI oq)]) (st := []) (rc2 := 6 + 1 * (rc + 0)) (rs2 := 36 + 1 * (rs + 0)) (w0 := (w4)) (q0 := 0) C iL_law_985 lm_L_225 yc_X8_castBy yv_X8_castBy (k_castBy hl hC4 eq4 ok4 (a := oq) hoq) rfl rfl hf5 (((wSim Z s (toN Z) (toM Z) hA lA oA tA eA (fun j => some (rw j)) (fun j => some (lr j)) fo ft fe dy ca ++ wRw Z (toN Z) rw p h f t) ++ wPl Z L) ++ wLr Z (toM Z) lr (toK Z) (toV Z)) [] (by simp only [List.append_assoc, List.append_nil, List.nil_append]) rfl ⟨Nat.le_of_ble_eq_true rfl, Nat.le_of_ble_eq_true rfl⟩ (Nat.le_of_ble_eq_true rfl) rfl rfl ?_
  rintro _ w5 ⟨rfl, hC5⟩
  refine J_st (.int (nI (caN p (upN h oq 30) f t (toN Z) oq)) :: []) rfl ?_
  refine J_ws ((((wSim Z s (toN Z) (toM Z) hA lA oA tA eA (fun j => some (rw j)) (fun j => some (lr j)) fo ft fe dy ca ++ wRw Z (toN Z) rw p h f t) ++ wPl Z L) ++ wLr Z (toM Z) lr (toK Z) (toV Z)) ++ w5) (by simp only [List.append_assoc, List.append_nil, List.nil_append]) ?_
  refine J_iload C iL_law_988 rfl ?_
  refine J_icmplt 1027 C iL_law_990 rfl (fun h990 => absurd h990 (nI_nlt (a := caN p (upN h oq 30) f t (toN Z) oq) (b := caN p h f t (toN Z) oq) (ca_up ok0 hoq) (by have := caN_le p (upN h oq 30) f t (n := toN Z) (by omega) oq; omega))) (fun h990 => ?_)
  refine J_aload_n C iL_law_993 rfl rfl ?_
  refine J_iload C iL_law_994 rfl ?_
  obtain ⟨fs6, hf6⟩ := CI.head hC5
  refine J_room (rc2 := 1 + (5 + 1 * (rc + 0))) (rs2 := 6 + (30 + 1 * (rs + 0))) (by omega) (by omega) ?_
  refine J_cVb (As := [.int (nI oq)]) (st := []) (rc2 := 5 + 1 * (rc + 0)) (rs2 := 30 + 1 * (rs + 0)) (w0 := (w5)) (q0 := 0) C iL_law_996 lm_L_228 yc_X8_hoursLost yv_X8_hoursLost (k_hoursLost hl hC5 eq4 ok4 (a := oq) hoq) rfl rfl hf6 (((wSim Z s (toN Z) (toM Z) hA lA oA tA eA (fun j => some (rw j)) (fun j => some (lr j)) fo ft fe dy ca ++ wRw Z (toN Z) rw p h f t) ++ wPl Z L) ++ wLr Z (toM Z) lr (toK Z) (toV Z)) [] (by simp only [List.append_assoc, List.append_nil, List.nil_append]) rfl ⟨Nat.le_of_ble_eq_true rfl, Nat.le_of_ble_eq_true rfl⟩ (Nat.le_of_ble_eq_true rfl) rfl rfl ?_
  rintro _ w6 ⟨rfl, hC6⟩
  refine J_st (.int (nI (loN p (upN h oq 30) f t (toN Z) oq)) :: []) rfl ?_
  refine J_ws ((((wSim Z s (toN Z) (toM Z) hA lA oA tA eA (fun j => some (rw j)) (fun j => some (lr j)) fo ft fe dy ca ++ wRw Z (toN Z) rw p h f t) ++ wPl Z L) ++ wLr Z (toM Z) lr (toK Z) (toV Z)) ++ w6) (by simp only [List.append_assoc, List.append_nil, List.nil_append]) ?_
  refine J_iload C iL_law_999 rfl ?_
  refine J_icmpgt 1027 C iL_law_1001 rfl (fun h1001 => absurd h1001 (nI_nlt (a := loN p h f t (toN Z) oq) (b := loN p (upN h oq 30) f t (toN Z) oq) (lo_up ok0 hoq) (by have := loN_le p h f t (toN Z) oq; omega))) (fun h1001 => ?_)
  refine J_aload_n C iL_law_1004 rfl rfl ?_
  refine J_iload C iL_law_1005 rfl ?_
  refine J_iload C iL_law_1007 rfl ?_
  obtain ⟨fs7, hf7⟩ := CI.head hC6
  refine J_room (rc2 := 2 + (3 + 1 * (rc + 0))) (rs2 := 12 + (18 + 1 * (rs + 0))) (by omega) (by omega) ?_
  refine J_cVb (As := [.int (nI oq), .int (nI (h oq))]) (st := []) (rc2 := 3 + 1 * (rc + 0)) (rs2 := 18 + 1 * (rs + 0)) (w0 := (w6)) (q0 := 0) C iL_law_1009 lm_L_147 yc_X8_build yv_X8_build (k_build hl hC6 eq4 ok4 (a := oq) (y := (h oq)) hoq (by omega)) rfl rfl hf7 (((wSim Z s (toN Z) (toM Z) hA lA oA tA eA (fun j => some (rw j)) (fun j => some (lr j)) fo ft fe dy ca ++ wRw Z (toN Z) rw p h f t) ++ wPl Z L) ++ wLr Z (toM Z) lr (toK Z) (toV Z)) [] (by simp only [List.append_assoc, List.append_nil, List.nil_append]) rfl ⟨Nat.le_of_ble_eq_true rfl, Nat.le_of_ble_eq_true rfl⟩ (Nat.le_of_ble_eq_true rfl) rfl rfl ?_
  rintro _ w7 ⟨rfl, hC7⟩
  refine J_st (.int (nI ((upN h oq 30) oq)) :: []) rfl ?_
  refine J_ws ((((wSim Z s (toN Z) (toM Z) hA lA oA tA eA (fun j => some (rw j)) (fun j => some (lr j)) fo ft fe dy ca ++ wRw Z (toN Z) rw p h f t) ++ wPl Z L) ++ wLr Z (toM Z) lr (toK Z) (toV Z)) ++ w7) (by simp only [List.append_assoc, List.append_nil, List.nil_append]) ?_
  refine J_bipush 30 C iL_law_1012 rfl ?_
  refine J_icmpne 1027 C iL_law_1014 rfl (fun h1014 => absurd (congrArg nI (upN_s h oq 30)) h1014) (fun h1014 => ?_)
  have hpH : pH oq = nI (h oq) := (eq0 oq hoq).2.1
  have hC8 : CI Z x (toN Z) u tm er dy ca pP pH pF pT op f1 f2 l0 hh c0 c1 c2 c3 tb w7 := by have z9 := hC7; rw [upd_two, upd_self hpH] at z9; exact z9
  refine J_aload_n C iL_law_1017 rfl rfl ?_
  obtain ⟨fs9, hf9⟩ := CI.head hC8
  refine J_cVb (As := []) (st := []) (rc2 := 3 + 1 * (rc + 0)) (rs2 := 18 + 1 * (rs + 0)) (w0 := (w7)) (q0 := 0) C iL_law_1018 lm_L_177 yc_X8_digest yv_X8_digest (k_digest hC8 eq0 ok0) rfl rfl hf9 (((wSim Z s (toN Z) (toM Z) hA lA oA tA eA (fun j => some (rw j)) (fun j => some (lr j)) fo ft fe dy ca ++ wRw Z (toN Z) rw p h f t) ++ wPl Z L) ++ wLr Z (toM Z) lr (toK Z) (toV Z)) [] (by simp only [List.append_assoc, List.append_nil, List.nil_append]) rfl ⟨Nat.le_of_ble_eq_true rfl, Nat.le_of_ble_eq_true rfl⟩ (Nat.le_of_ble_eq_true rfl) (Nat.zero_add _).symm (Nat.zero_add _).symm ?_
  rintro _ w9 ⟨rfl, hC9⟩
  refine J_st (.long (dgCn (toN Z) u dy ca pP pH pF pT) :: []) rfl ?_
  refine J_ws ((((wSim Z s (toN Z) (toM Z) hA lA oA tA eA (fun j => some (rw j)) (fun j => some (lr j)) fo ft fe dy ca ++ wRw Z (toN Z) rw p h f t) ++ wPl Z L) ++ wLr Z (toM Z) lr (toK Z) (toV Z)) ++ w9) (by simp only [List.append_assoc, List.append_nil, List.nil_append]) ?_
  refine J_lload C iL_law_1021 rfl ?_
  refine J_lcmp C iL_law_1023 ?_
  refine J_ifeqL 1029 C iL_law_1024 rfl (fun h1024 => ?_) (fun h1024 => absurd hdg h1024)
  refine J_lvm [(9, .int (nI (alN p h f t (toN Z)))), (7, .long dg9), (6, .int x9), (5, .int (nI tm9)), (4, .int (nI (toN Z))), (3, .ref s), (2, .ref t9), (1, .ref (x 0)), (0, .ref (zms Z 3))] rfl ?_
  refine J_room (rc2 := rc) (rs2 := rs) (by omega) (by omega) ?_
  exact next w9 hC9

