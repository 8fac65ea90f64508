set_option maxRecDepth 100000 in
set_option maxHeartbeats 4000000 in
theorem law_days {Z : GZ} {X : CX} {Q : State → Prop} {rc rs : Nat} {x : Nat → Nat} {u tm : Nat} {er : Int32} {pP pH pF pT op f1 f2 l0 tb : Nat → Int32} {hh c0 c1 c2 c3 : Nat → Nat} {s hA lA oA tA eA : Nat} {rw lr p h f t : Nat → Nat} {fo ft fe : Nat → Option Nat} {L : List TC} {dy ca : Int32} {wc : va_W} {t9 tm9 : Nat} {x9 : Int32} {dg9 : Int64} (C : Cx Z X cL_law 29 RL) (hl : (cL X).stackTraces = false) (hC : CI Z x (toN Z) u tm er dy ca pP pH pF pT op f1 f2 l0 hh c0 c1 c2 c3 tb wc) (eq0 : EqS (toN Z) pP pH pF pT p h f t) (ok0 : SnOk (toN Z) p h f t) (tr : TrOk Z (toM Z) L fo ft fe) (hd : DayOk Z op f1 f2 l0 hh c0 c1 c2 c3 u) (next : ∀ (pH9 pF9 pT9 : Nat → Int32) (h9 f9 t9_ : Nat → Nat) (dy9 ca9 : Int32) (w9 : va_W), CI Z x (toN Z) u tm er dy9 ca9 pP pH9 pF9 pT9 op f1 f2 l0 hh c0 c1 c2 c3 tb w9 → EqS (toN Z) pP pH9 pF9 pT9 p h9 f9 t9_ → SnOk (toN Z) p h9 f9 t9_ → Jd Z X room_1 29 Q rc rs 1164 [(6, .int x9), (5, .int (nI tm9)), (4, .int (nI (toN Z))), (3, .ref s), (2, .ref t9), (1, .ref (x 0)), (0, .ref (zms Z 3))] [] ((((wSim Z s (toN Z) (toM Z) hA lA oA tA eA (fun j => some (rw j)) (fun j => some (lr j)) fo ft fe dy9 ca9 ++ wRw Z (toN Z) rw p h9 f9 t9_) ++ wPl Z L) ++ wLr Z (toM Z) lr (toK Z) (toV Z)) ++ w9)) : Jd Z X room_1 29 Q (40 + 1 * (rc + 0)) (240 + 1 * (rs + 0)) 1029 [(9, .int (nI (alN p h f t (toN Z)))), (7, .long dg9), (6, .int x9), (5, .int (nI tm9)), (4, .int (nI (toN Z))), (3, .ref s), (2, .ref t9), (1, .ref (x 0)), (0, .ref (zms Z 3))] [] ((((wSim Z s (toN Z) (toM Z) hA lA oA tA eA (fun j => some (rw j)) (fun j => some (lr j)) fo ft fe dy ca ++ wRw Z (toN Z) rw p h f t) ++ wPl Z L) ++ wLr Z (toM Z) lr (toK Z) (toV Z)) ++ wc) := by
  have hto := toN_in Z
  refine J_iconst 1 C iL_law_1029 rfl ?_
  refine J_iload C iL_law_1030 rfl ?_
  refine J_bipush 6 C iL_law_1032 rfl ?_
  refine J_ishr C iL_law_1034 ?_
  refine J_bipush 6 C iL_law_1035 rfl ?_
  refine J_cSb (As := [.int (x9 >>> (6 &&& 31)), .int 6]) (st := .int 1 :: []) (rc2 := 40 + 1 * (rc + 0)) (rs2 := 240 + 1 * (rs + 0)) (w0 := []) C iL_law_1037 lm_L_35 yc_L_below ys_L_below (c_L_below (x := x9 >>> (6 &&& 31)) (N := 6) (by omega) (by omega)) [] ((((wSim Z s (toN Z) (toM Z) hA lA oA tA eA (fun j => some (rw j)) (fun j => some (lr j)) fo ft fe dy ca ++ wRw Z (toN Z) rw p h f t) ++ wPl Z L) ++ wLr Z (toM Z) lr (toK Z) (toV Z)) ++ wc) (by simp only [List.append_assoc, List.append_nil, List.nil_append]) rfl ⟨Nat.le_of_ble_eq_true rfl, Nat.le_of_ble_eq_true rfl⟩ (Nat.le_of_ble_eq_true rfl) (Nat.zero_add _).symm (Nat.zero_add _).symm ?_
  rintro _ _ ⟨rfl, rfl⟩
  refine J_st (.int (nI (belN (x9 >>> (6 &&& 31)) 6)) :: .int 1 :: []) rfl ?_
  refine J_ws ((((wSim Z s (toN Z) (toM Z) hA lA oA tA eA (fun j => some (rw j)) (fun j => some (lr j)) fo ft fe dy ca ++ wRw Z (toN Z) rw p h f t) ++ wPl Z L) ++ wLr Z (toM Z) lr (toK Z) (toV Z)) ++ wc) (by simp only [List.append_assoc, List.append_nil, List.nil_append]) ?_
  refine J_iadd C iL_law_1040 ?_
  rw [show (1 : Int32) + (nI (belN (x9 >>> (6 &&& 31)) 6)) = nI (1 + (belN (x9 >>> (6 &&& 31)) 6)) from nI_add _ _]
  have hnd : 1 ≤ (1 + (belN (x9 >>> (6 &&& 31)) 6)) ∧ (1 + (belN (x9 >>> (6 &&& 31)) 6)) ≤ 6 := by have := belN_lt (x := x9 >>> (6 &&& 31)) (n := 6) (by decide); omega
  generalize (1 + (belN (x9 >>> (6 &&& 31)) 6)) = nd at hnd ⊢
  refine J_st (.int (nI nd) :: []) rfl ?_
  refine J_istore [(24, .int (nI nd)), (9, .int (nI (alN p h f t (toN Z)))), (7, .long dg9), (6, .int x9), (5, .int (nI tm9)), (4, .int (nI (toN Z))), (3, .ref s), (2, .ref t9), (1, .ref (x 0)), (0, .ref (zms Z 3))] C iL_law_1041 (by decide) rfl ?_
  refine J_aload_n C iL_law_1043 rfl rfl ?_
  refine J_iload C iL_law_1044 rfl ?_
  obtain ⟨fs1, hf1⟩ := CI.head hC
  refine J_room (rc2 := 1 + (39 + 1 * (rc + 0))) (rs2 := 6 + (234 + 1 * (rs + 0))) (by omega) (by omega) ?_
  refine J_cVb (As := [.int (nI nd)]) (st := []) (rc2 := 39 + 1 * (rc + 0)) (rs2 := 234 + 1 * (rs + 0)) (w0 := (wc)) (q0 := 0) C iL_law_1046 lm_L_255 yc_X8_lostAfter yv_X8_lostAfter (k_lostAfter hl (n := nd) hC eq0 ok0 (by omega) (by omega)) rfl rfl hf1 (((wSim Z s (toN Z) (toM Z) hA lA oA tA eA (fun j => some (rw j)) (fun j => some (lr j)) fo ft fe dy ca ++ wRw Z (toN Z) rw p h f t) ++ wPl Z L) ++ wLr Z (toM Z) lr (toK Z) (toV Z)) [] (by simp only [List.append_assoc, List.append_nil, List.nil_append]) rfl ⟨Nat.le_of_ble_eq_true rfl, Nat.le_of_ble_eq_true rfl⟩ (Nat.le_of_ble_eq_true rfl) rfl rfl ?_
  rintro _ w1 ⟨rfl, hC1⟩
  refine J_st (.int (lgD (toN Z) pP (dyN (toN Z) pP op f1 f2 l0 hh c0 c1 c2 c3 u ((pH, pF, pT), ca, dy) nd)) :: []) rfl ?_
  refine J_ws ((((wSim Z s (toN Z) (toM Z) hA lA oA tA eA (fun j => some (rw j)) (fun j => some (lr j)) fo ft fe dy ca ++ wRw Z (toN Z) rw p h f t) ++ wPl Z L) ++ wLr Z (toM Z) lr (toK Z) (toV Z)) ++ w1) (by simp only [List.append_assoc, List.append_nil, List.nil_append]) ?_
  refine J_istore [(25, .int (lgD (toN Z) pP (dyN (toN Z) pP op f1 f2 l0 hh c0 c1 c2 c3 u ((pH, pF, pT), ca, dy) nd))), (24, .int (nI nd)), (9, .int (nI (alN p h f t (toN Z)))), (7, .long dg9), (6, .int x9), (5, .int (nI tm9)), (4, .int (nI (toN Z))), (3, .ref s), (2, .ref t9), (1, .ref (x 0)), (0, .ref (zms Z 3))] C iL_law_1049 (by decide) rfl ?_
  refine J_aload_n C iL_law_1051 rfl rfl ?_
  obtain ⟨fs2, hf2⟩ := CI.head hC1
  refine J_cVb (As := []) (st := []) (rc2 := 39 + 1 * (rc + 0)) (rs2 := 234 + 1 * (rs + 0)) (w0 := (w1)) (q0 := 0) C iL_law_1052 lm_L_246 yc_X8_daysUntilLight yv_X8_daysUntilLight (k_daysUntilLight hC1 eq0 ok0) rfl rfl hf2 (((wSim Z s (toN Z) (toM Z) hA lA oA tA eA (fun j => some (rw j)) (fun j => some (lr j)) fo ft fe dy ca ++ wRw Z (toN Z) rw p h f t) ++ wPl Z L) ++ wLr Z (toM Z) lr (toK Z) (toV Z)) [] (by simp only [List.append_assoc, List.append_nil, List.nil_append]) rfl ⟨Nat.le_of_ble_eq_true rfl, Nat.le_of_ble_eq_true rfl⟩ (Nat.le_of_ble_eq_true rfl) (Nat.zero_add _).symm (Nat.zero_add _).symm ?_
  rintro _ w2 ⟨rfl, hC2⟩
  refine J_st (.int (duX (toN Z) pP op f1 f2 l0 hh c0 c1 c2 c3 u ((pH, pF, pT), ca, dy)) :: []) rfl ?_
  refine J_ws ((((wSim Z s (toN Z) (toM Z) hA lA oA tA eA (fun j => some (rw j)) (fun j => some (lr j)) fo ft fe dy ca ++ wRw Z (toN Z) rw p h f t) ++ wPl Z L) ++ wLr Z (toM Z) lr (toK Z) (toV Z)) ++ w2) (by simp only [List.append_assoc, List.append_nil, List.nil_append]) ?_
  obtain ⟨du9, hdu9, hdu⟩ : ∃ d, duX (toN Z) pP op f1 f2 l0 hh c0 c1 c2 c3 u ((pH, pF, pT), ca, dy) = d ∧ ((∃ k, k < 31 ∧ d = nI k ∧ (fun k => lgD (toN Z) pP (dyN (toN Z) pP op f1 f2 l0 hh c0 c1 c2 c3 u ((pH, pF, pT), ca, dy) k)) k = 0 ∧ ∀ i, i < k → ¬ (fun k => lgD (toN Z) pP (dyN (toN Z) pP op f1 f2 l0 hh c0 c1 c2 c3 u ((pH, pF, pT), ca, dy) k)) i = 0) ∨ (d = -1 ∧ ∀ i, i < 31 → ¬ (fun k => lgD (toN Z) pP (dyN (toN Z) pP op f1 f2 l0 hh c0 c1 c2 c3 u ((pH, pF, pT), ca, dy) k)) i = 0)) := ⟨_, rfl, by unfold duX; exact du_ok⟩
  rw [hdu9]
  refine J_st (.int du9 :: []) rfl ?_
  refine J_istore [(26, .int du9), (25, .int (lgD (toN Z) pP (dyN (toN Z) pP op f1 f2 l0 hh c0 c1 c2 c3 u ((pH, pF, pT), ca, dy) nd))), (24, .int (nI nd)), (9, .int (nI (alN p h f t (toN Z)))), (7, .long dg9), (6, .int x9), (5, .int (nI tm9)), (4, .int (nI (toN Z))), (3, .ref s), (2, .ref t9), (1, .ref (x 0)), (0, .ref (zms Z 3))] C iL_law_1055 (by decide) rfl ?_
  refine J_iconst 1 C iL_law_1057 rfl ?_
  refine J_istore [(27, .int 1), (26, .int du9), (25, .int (lgD (toN Z) pP (dyN (toN Z) pP op f1 f2 l0 hh c0 c1 c2 c3 u ((pH, pF, pT), ca, dy) nd))), (24, .int (nI nd)), (9, .int (nI (alN p h f t (toN Z)))), (7, .long dg9), (6, .int x9), (5, .int (nI tm9)), (4, .int (nI (toN Z))), (3, .ref s), (2, .ref t9), (1, .ref (x 0)), (0, .ref (zms Z 3))] C iL_law_1058 (by decide) rfl ?_
  refine J_room (rc2 := 5 * (6 - 0) + (0 + 1 * (rc + 0))) (rs2 := 18 * (6 - 0) + (0 + 1 * (rs + 0))) (by omega) (by omega) ?_
  refine J_lvm [(27, .int (nI (0 + 1))), (26, .int du9), (25, .int (lgD (toN Z) pP (dyN (toN Z) pP op f1 f2 l0 hh c0 c1 c2 c3 u ((pH, pF, pT), ca, dy) nd))), (24, .int (nI nd)), (6, .int x9), (5, .int (nI tm9)), (4, .int (nI (toN Z))), (3, .ref s), (2, .ref t9), (1, .ref (x 0)), (0, .ref (zms Z 3))] (by rfl) ?_
  refine J_forR (σ := (Nat → Nat) × (Nat → Nat) × (Nat → Nat) × Int32 × Int32 × va_W) (fun k => 5 * (6 - k) + (0 + 1 * (rc + 0))) (fun k => 18 * (6 - k) + (0 + 1 * (rs + 0))) (fun k q9 => [(27, .int (nI (k + 1))), (26, .int du9), (25, .int (lgD (toN Z) pP (dyN (toN Z) pP op f1 f2 l0 hh c0 c1 c2 c3 u ((pH, pF, pT), ca, dy) nd))), (24, .int (nI nd)), (6, .int x9), (5, .int (nI tm9)), (4, .int (nI (toN Z))), (3, .ref s), (2, .ref t9), (1, .ref (x 0)), (0, .ref (zms Z 3))]) (fun k q9 => ((((wSim Z s (toN Z) (toM Z) hA lA oA tA eA (fun j => some (rw j)) (fun j => some (lr j)) fo ft fe q9.2.2.2.2.1 q9.2.2.2.1 ++ wRw Z (toN Z) rw p q9.1 q9.2.1 q9.2.2.1) ++ wPl Z L) ++ wLr Z (toM Z) lr (toK Z) (toV Z)) ++ q9.2.2.2.2.2)) (fun k q9 => ndN Z p ((h, f, t, ca), dy) k = ((q9.1, q9.2.1, q9.2.2.1, q9.2.2.2.1), q9.2.2.2.2.1) ∧ SnOk (toN Z) p q9.1 q9.2.1 q9.2.2.1 ∧ CI Z x (toN Z) u tm er q9.2.2.2.2.1 q9.2.2.2.1 pP ((dyN (toN Z) pP op f1 f2 l0 hh c0 c1 c2 c3 u ((pH, pF, pT), ca, dy) k).1.1) ((dyN (toN Z) pP op f1 f2 l0 hh c0 c1 c2 c3 u ((pH, pF, pT), ca, dy) k).1.2.1) ((dyN (toN Z) pP op f1 f2 l0 hh c0 c1 c2 c3 u ((pH, pF, pT), ca, dy) k).1.2.2) op f1 f2 l0 hh c0 c1 c2 c3 tb q9.2.2.2.2.2) nd 0 (h, f, t, ca, dy, w2) (by omega) ⟨rfl, ok0, hC2⟩ ?_ ?_
  · rintro ⟨hh1, ff1, tt1, cc1, dd1, wv1⟩ hI
    dsimp only at hI ⊢
    obtain ⟨hI1, hI2, hI3⟩ := hI
    obtain ⟨z1, z2, z3⟩ := days_link hd (dy := dy) (ca := ca) eq0 ok0 nd
    rw [hI1] at z1 z2 z3
    dsimp only at z1 z2 z3
    refine J_room (rc2 := 0 + 1 * (rc + 0)) (rs2 := 0 + 1 * (rs + 0)) (by omega) (by omega) ?_
    refine J_iload C iL_law_1060 rfl ?_
    refine J_iload C iL_law_1062 rfl ?_
    refine J_icmpgt 1153 C iL_law_1064 rfl (fun h1064 => ?_) (fun h1064 => absurd (nI_lt (a := nd) (b := nd + 1) (by omega) (by omega)) h1064)
    refine J_aload_n C iL_law_1153 rfl rfl ?_
    obtain ⟨fs3, hf3⟩ := CI.head hI3
    refine J_cVb (As := []) (st := []) (rc2 := 0 + 1 * (rc + 0)) (rs2 := 0 + 1 * (rs + 0)) (w0 := (wv1)) (q0 := 0) C iL_law_1154 lm_L_240 yc_X8_allHoursLost yv_X8_allHoursLost (k_allHoursLost hI3 z1 hI2) rfl rfl hf3 (((wSim Z s (toN Z) (toM Z) hA lA oA tA eA (fun j => some (rw j)) (fun j => some (lr j)) fo ft fe dd1 cc1 ++ wRw Z (toN Z) rw p hh1 ff1 tt1) ++ wPl Z L) ++ wLr Z (toM Z) lr (toK Z) (toV Z)) [] (by simp only [List.append_assoc, List.append_nil, List.nil_append]) rfl ⟨Nat.le_of_ble_eq_true rfl, Nat.le_of_ble_eq_true rfl⟩ (Nat.le_of_ble_eq_true rfl) (Nat.zero_add _).symm (Nat.zero_add _).symm ?_
    rintro _ w3 ⟨rfl, hC3⟩
    refine J_st (.int (nI (alN p hh1 ff1 tt1 (toN Z))) :: []) rfl ?_
    refine J_ws ((((wSim Z s (toN Z) (toM Z) hA lA oA tA eA (fun j => some (rw j)) (fun j => some (lr j)) fo ft fe dd1 cc1 ++ wRw Z (toN Z) rw p hh1 ff1 tt1) ++ wPl Z L) ++ wLr Z (toM Z) lr (toK Z) (toV Z)) ++ w3) (by simp only [List.append_assoc, List.append_nil, List.nil_append]) ?_
    refine J_iload C iL_law_1157 rfl ?_
    refine J_icmpeq 1164 C iL_law_1159 rfl (fun h1159 => ?_) (fun h1159 => absurd (show nI (alN p hh1 ff1 tt1 (toN Z)) = lgD (toN Z) pP (dyN (toN Z) pP op f1 f2 l0 hh c0 c1 c2 c3 u ((pH, pF, pT), ca, dy) nd) from (al_b z1 hI2).symm) h1159)
    refine J_lvm [(6, .int x9), (5, .int (nI tm9)), (4, .int (nI (toN Z))), (3, .ref s), (2, .ref t9), (1, .ref (x 0)), (0, .ref (zms Z 3))] rfl ?_
    refine J_room (rc2 := rc) (rs2 := rs) (by omega) (by omega) ?_
    exact next _ _ _ hh1 ff1 tt1 dd1 cc1 w3 hC3 z1 hI2
  · rintro k ⟨hh1, ff1, tt1, cc1, dd1, wv1⟩ hk0 hk hI ih
    dsimp only at hI ⊢
    obtain ⟨hI1, hI2, hI3⟩ := hI
    obtain ⟨z1, z2, z3⟩ := days_link hd (dy := dy) (ca := ca) eq0 ok0 k
    rw [hI1] at z1 z2 z3
    dsimp only at z1 z2 z3
    refine J_room (rc2 := 5 + 1 * (5 * (6 - (k + 1)) + (0 + 1 * (rc + 0)))) (rs2 := 18 + 1 * (18 * (6 - (k + 1)) + (0 + 1 * (rs + 0)))) (by omega) (by omega) ?_
    refine J_iload C iL_law_1060 rfl ?_
    refine J_iload C iL_law_1062 rfl ?_
    refine J_icmpgt 1153 C iL_law_1064 rfl (fun h1064 => absurd h1064 (nI_nlt (a := nd) (b := k + 1) (by omega) (by omega))) (fun h1064 => ?_)
    refine J_aload_n C iL_law_1067 rfl rfl ?_
    refine J_get (.int cc1) 0 C iL_law_1068 gf_L_153 rfl rfl ?_
    refine J_istore [(28, .int cc1), (27, .int (nI (k + 1))), (26, .int du9), (25, .int (lgD (toN Z) pP (dyN (toN Z) pP op f1 f2 l0 hh c0 c1 c2 c3 u ((pH, pF, pT), ca, dy) nd))), (24, .int (nI nd)), (6, .int x9), (5, .int (nI tm9)), (4, .int (nI (toN Z))), (3, .ref s), (2, .ref t9), (1, .ref (x 0)), (0, .ref (zms Z 3))] C iL_law_1071 (by decide) rfl ?_
    refine J_aload_n C iL_law_1073 rfl rfl ?_
    refine J_room (rc2 := 4 + (1 + 1 * (5 * (6 - (k + 1)) + (0 + 1 * (rc + 0))))) (rs2 := 12 + (6 + 1 * (18 * (6 - (k + 1)) + (0 + 1 * (rs + 0))))) (by omega) (by omega) ?_
    refine J_cVb (As := []) (st := []) (rc2 := 1 + 1 * (5 * (6 - (k + 1)) + (0 + 1 * (rc + 0)))) (rs2 := 6 + 1 * (18 * (6 - (k + 1)) + (0 + 1 * (rs + 0)))) (w0 := (((wSim Z s (toN Z) (toM Z) hA lA oA tA eA (fun j => some (rw j)) (fun j => some (lr j)) fo ft fe dd1 cc1 ++ wRw Z (toN Z) rw p hh1 ff1 tt1) ++ wPl Z L) ++ wLr Z (toM Z) lr (toK Z) (toV Z))) (q0 := 0) C iL_law_1074 lm_L_156 yc_X9_pass yv_X9_pass (c_X9_pass hI2 tr) rfl rfl rfl [] (wv1) (by simp only [List.append_assoc, List.append_nil, List.nil_append]) rfl ⟨Nat.le_of_ble_eq_true rfl, Nat.le_of_ble_eq_true rfl⟩ (Nat.le_of_ble_eq_true rfl) rfl rfl ?_
    rintro _ _ ⟨rfl, h4_, f4_, t4_, c4_, e4_, o4_, rfl⟩
    have en4 : ndN Z p ((h, f, t, ca), dy) (k + 1) = ((h4_, f4_, t4_, c4_), dd1 + 1) := by rw [ndN, hI1]; exact congrArg (fun z => (z, dd1 + 1)) e4_
    obtain ⟨y1, y2, y3⟩ := days_link hd (dy := dy) (ca := ca) eq0 ok0 (k + 1)
    rw [en4] at y1 y2 y3
    dsimp only at y1 y2 y3
    refine J_st ([]) rfl ?_
    refine J_ws ((((wSim Z s (toN Z) (toM Z) hA lA oA tA eA (fun j => some (rw j)) (fun j => some (lr j)) fo ft fe (dd1 + 1) c4_ ++ wRw Z (toN Z) rw p h4_ f4_ t4_) ++ wPl Z L) ++ wLr Z (toM Z) lr (toK Z) (toV Z)) ++ wv1) (by simp only [List.append_assoc, List.append_nil, List.nil_append]) ?_
    refine J_aload_n C iL_law_1077 rfl rfl ?_
    refine J_iconst 1 C iL_law_1078 rfl ?_
    obtain ⟨fs5, hf5⟩ := CI.head hI3
    refine J_room (rc2 := 1 + (0 + 1 * (5 * (6 - (k + 1)) + (0 + 1 * (rc + 0))))) (rs2 := 6 + (0 + 1 * (18 * (6 - (k + 1)) + (0 + 1 * (rs + 0))))) (by omega) (by omega) ?_
    refine J_cVb (As := [.int 1]) (st := []) (rc2 := 0 + 1 * (5 * (6 - (k + 1)) + (0 + 1 * (rc + 0)))) (rs2 := 0 + 1 * (18 * (6 - (k + 1)) + (0 + 1 * (rs + 0)))) (w0 := (wv1)) (q0 := 0) C iL_law_1079 lm_L_159 yc_X8_passDays yv_X8_passDays (k_passDays hl hI3 z1 hI2 (n := 1) (by decide) (by decide)) rfl rfl hf5 (((wSim Z s (toN Z) (toM Z) hA lA oA tA eA (fun j => some (rw j)) (fun j => some (lr j)) fo ft fe (dd1 + 1) c4_ ++ wRw Z (toN Z) rw p h4_ f4_ t4_) ++ wPl Z L) ++ wLr Z (toM Z) lr (toK Z) (toV Z)) [] (by simp only [List.append_assoc, List.append_nil, List.nil_append]) rfl ⟨Nat.le_of_ble_eq_true rfl, Nat.le_of_ble_eq_true rfl⟩ (Nat.le_of_ble_eq_true rfl) rfl rfl ?_
    rintro _ w5 ⟨rfl, hC5⟩
    have hq1 : (((dyN (toN Z) pP op f1 f2 l0 hh c0 c1 c2 c3 u ((pH, pF, pT), ca, dy) k).1.1, (dyN (toN Z) pP op f1 f2 l0 hh c0 c1 c2 c3 u ((pH, pF, pT), ca, dy) k).1.2.1, (dyN (toN Z) pP op f1 f2 l0 hh c0 c1 c2 c3 u ((pH, pF, pT), ca, dy) k).1.2.2), cc1, dd1) = (dyN (toN Z) pP op f1 f2 l0 hh c0 c1 c2 c3 u ((pH, pF, pT), ca, dy) k) := by rw [← z2, ← z3]
    have hd1 : (dyN (toN Z) pP op f1 f2 l0 hh c0 c1 c2 c3 u (((dyN (toN Z) pP op f1 f2 l0 hh c0 c1 c2 c3 u ((pH, pF, pT), ca, dy) k).1.1, (dyN (toN Z) pP op f1 f2 l0 hh c0 c1 c2 c3 u ((pH, pF, pT), ca, dy) k).1.2.1, (dyN (toN Z) pP op f1 f2 l0 hh c0 c1 c2 c3 u ((pH, pF, pT), ca, dy) k).1.2.2), cc1, dd1) 1) = (dyN (toN Z) pP op f1 f2 l0 hh c0 c1 c2 c3 u ((pH, pF, pT), ca, dy) (k + 1)) := by rw [hq1]; rfl
    rw [hd1] at hC5
    rw [y2, y3] at hC5
    refine J_st (.int ((dyN (toN Z) pP op f1 f2 l0 hh c0 c1 c2 c3 u (((dyN (toN Z) pP op f1 f2 l0 hh c0 c1 c2 c3 u ((pH, pF, pT), ca, dy) k).1.1, (dyN (toN Z) pP op f1 f2 l0 hh c0 c1 c2 c3 u ((pH, pF, pT), ca, dy) k).1.2.1, (dyN (toN Z) pP op f1 f2 l0 hh c0 c1 c2 c3 u ((pH, pF, pT), ca, dy) k).1.2.2), cc1, dd1) 1).2.1 - cc1) :: []) rfl ?_
    refine J_ws ((((wSim Z s (toN Z) (toM Z) hA lA oA tA eA (fun j => some (rw j)) (fun j => some (lr j)) fo ft fe (dd1 + 1) c4_ ++ wRw Z (toN Z) rw p h4_ f4_ t4_) ++ wPl Z L) ++ wLr Z (toM Z) lr (toK Z) (toV Z)) ++ w5) (by simp only [List.append_assoc, List.append_nil, List.nil_append]) ?_
    refine J_aload_n C iL_law_1082 rfl rfl ?_
    refine J_get (.int c4_) 0 C iL_law_1083 gf_L_153 rfl rfl ?_
    refine J_iload C iL_law_1086 rfl ?_
    refine J_isub C iL_law_1088 ?_
    refine J_icmpeq 1094 C iL_law_1089 rfl (fun h1089 => ?_) (fun h1089 => absurd (show (dyN (toN Z) pP op f1 f2 l0 hh c0 c1 c2 c3 u (((dyN (toN Z) pP op f1 f2 l0 hh c0 c1 c2 c3 u ((pH, pF, pT), ca, dy) k).1.1, (dyN (toN Z) pP op f1 f2 l0 hh c0 c1 c2 c3 u ((pH, pF, pT), ca, dy) k).1.2.1, (dyN (toN Z) pP op f1 f2 l0 hh c0 c1 c2 c3 u ((pH, pF, pT), ca, dy) k).1.2.2), cc1, dd1) 1).2.1 - cc1 = c4_ - cc1 by rw [hd1, y2]) h1089)
    have hal9 := alN_le p h4_ f4_ t4_ (n := toN Z) (by omega)
    have hf9 : (fun k => lgD (toN Z) pP (dyN (toN Z) pP op f1 f2 l0 hh c0 c1 c2 c3 u ((pH, pF, pT), ca, dy) k)) (k + 1) = nI (alN p h4_ f4_ t4_ (toN Z)) := al_b y1 o4_
    have hcase : (∃ k0, k0 < 31 ∧ du9 = nI k0 ∧ k0 = 0) ∨ (∃ k0, k0 < 31 ∧ du9 = nI k0 ∧ ¬ k0 = 0 ∧ k0 < k + 1) ∨ (∃ k0, k0 < 31 ∧ du9 = nI k0 ∧ ¬ k0 = 0 ∧ k0 = k + 1 ∧ alN p h4_ f4_ t4_ (toN Z) = 0) ∨ (∃ k0, k0 < 31 ∧ du9 = nI k0 ∧ ¬ k0 = 0 ∧ k + 1 < k0 ∧ ¬ alN p h4_ f4_ t4_ (toN Z) = 0) ∨ (du9 = -1 ∧ ¬ alN p h4_ f4_ t4_ (toN Z) = 0) := by
      rcases hdu with ⟨k0, h1, h2, h3, h4⟩ | ⟨h1, h2⟩
      · by_cases c : k0 = 0
        · exact Or.inl ⟨k0, h1, h2, c⟩
        · rcases Nat.lt_trichotomy k0 (k + 1) with d | d | d
          · exact Or.inr (Or.inl ⟨k0, h1, h2, c, d⟩)
          · refine Or.inr (Or.inr (Or.inl ⟨k0, h1, h2, c, d, ?_⟩))
            rw [d] at h3
            exact (nI_eq (b := 0) (by omega) (by decide)).mp (hf9.symm.trans h3)
          · refine Or.inr (Or.inr (Or.inr (Or.inl ⟨k0, h1, h2, c, d, fun e => h4 (k + 1) d ?_⟩)))
            rw [hf9, e]
            rfl
      · refine Or.inr (Or.inr (Or.inr (Or.inr ⟨h1, fun e => h2 (k + 1) (by omega) ?_⟩)))
        rw [hf9, e]
        rfl
    rcases hcase with ⟨k0, hk31, rfl, rfl⟩ | ⟨k0, hk31, rfl, hk1, hk2⟩ | ⟨k0, hk31, rfl, hk1, hk2, hk3⟩ | ⟨k0, hk31, rfl, hk1, hk2, hk3⟩ | ⟨rfl, hk3⟩
    · refine J_lvm [(28, .int cc1), (27, .int (nI (k + 1))), (26, .int (nI 0)), (25, .int (lgD (toN Z) pP (dyN (toN Z) pP op f1 f2 l0 hh c0 c1 c2 c3 u ((pH, pF, pT), ca, dy) nd))), (24, .int (nI nd)), (6, .int x9), (5, .int (nI tm9)), (4, .int (nI (toN Z))), (3, .ref s), (2, .ref t9), (1, .ref (x 0)), (0, .ref (zms Z 3))] rfl ?_
      refine J_iload C iL_law_1094 rfl ?_
      refine J_ifle 1133 C iL_law_1096 rfl (fun h1096 => ?_) (fun h1096 => absurd (show nI 0 ≤ 0 by decide) h1096)
      refine J_iload C iL_law_1133 rfl ?_
      refine J_ifge 1147 C iL_law_1135 rfl (fun h1135 => ?_) (fun h1135 => absurd (show (0 : Int32) ≤ nI 0 by decide) h1135)
      refine J_iinc ((nI (k + 1)) + 1) [(27, .int ((nI (k + 1)) + 1)), (28, .int cc1), (26, .int (nI 0)), (25, .int (lgD (toN Z) pP (dyN (toN Z) pP op f1 f2 l0 hh c0 c1 c2 c3 u ((pH, pF, pT), ca, dy) nd))), (24, .int (nI nd)), (6, .int x9), (5, .int (nI tm9)), (4, .int (nI (toN Z))), (3, .ref s), (2, .ref t9), (1, .ref (x 0)), (0, .ref (zms Z 3))] C iL_law_1147 rfl rfl (by decide) rfl ?_
      rw [show (nI (k + 1)) + 1 = nI ((k + 1) + 1) from nI_add _ _]
      refine J_goto 1060 C iL_law_1150 rfl ?_
      refine J_lvm [(27, .int (nI ((k + 1) + 1))), (26, .int (nI 0)), (25, .int (lgD (toN Z) pP (dyN (toN Z) pP op f1 f2 l0 hh c0 c1 c2 c3 u ((pH, pF, pT), ca, dy) nd))), (24, .int (nI nd)), (6, .int x9), (5, .int (nI tm9)), (4, .int (nI (toN Z))), (3, .ref s), (2, .ref t9), (1, .ref (x 0)), (0, .ref (zms Z 3))] rfl ?_
      refine J_room (rc2 := 5 * (6 - (k + 1)) + (0 + 1 * (rc + 0))) (rs2 := 18 * (6 - (k + 1)) + (0 + 1 * (rs + 0))) (by omega) (by omega) ?_
      exact ih (h4_, f4_, t4_, c4_, (dd1 + 1), w5) ⟨en4, o4_, hC5⟩
    · refine J_lvm [(28, .int cc1), (27, .int (nI (k + 1))), (26, .int (nI k0)), (25, .int (lgD (toN Z) pP (dyN (toN Z) pP op f1 f2 l0 hh c0 c1 c2 c3 u ((pH, pF, pT), ca, dy) nd))), (24, .int (nI nd)), (6, .int x9), (5, .int (nI tm9)), (4, .int (nI (toN Z))), (3, .ref s), (2, .ref t9), (1, .ref (x 0)), (0, .ref (zms Z 3))] rfl ?_
      refine J_iload C iL_law_1094 rfl ?_
      refine J_ifle 1133 C iL_law_1096 rfl (fun h1096 => absurd h1096 (fun e => by rw [show (0 : Int32) = nI 0 from rfl, nI_leI (by omega) (by decide)] at e; omega)) (fun h1096 => ?_)
      refine J_iload C iL_law_1099 rfl ?_
      refine J_iload C iL_law_1101 rfl ?_
      refine J_icmpgt 1133 C iL_law_1103 rfl (fun h1103 => ?_) (fun h1103 => absurd (nI_lt (a := k0) (b := k + 1) (by omega) (by omega)) h1103)
      refine J_iload C iL_law_1133 rfl ?_
      refine J_ifge 1147 C iL_law_1135 rfl (fun h1135 => ?_) (fun h1135 => absurd (nI_pos' (n := k0) (by omega)) h1135)
      refine J_iinc ((nI (k + 1)) + 1) [(27, .int ((nI (k + 1)) + 1)), (28, .int cc1), (26, .int (nI k0)), (25, .int (lgD (toN Z) pP (dyN (toN Z) pP op f1 f2 l0 hh c0 c1 c2 c3 u ((pH, pF, pT), ca, dy) nd))), (24, .int (nI nd)), (6, .int x9), (5, .int (nI tm9)), (4, .int (nI (toN Z))), (3, .ref s), (2, .ref t9), (1, .ref (x 0)), (0, .ref (zms Z 3))] C iL_law_1147 rfl rfl (by decide) rfl ?_
      rw [show (nI (k + 1)) + 1 = nI ((k + 1) + 1) from nI_add _ _]
      refine J_goto 1060 C iL_law_1150 rfl ?_
      refine J_lvm [(27, .int (nI ((k + 1) + 1))), (26, .int (nI k0)), (25, .int (lgD (toN Z) pP (dyN (toN Z) pP op f1 f2 l0 hh c0 c1 c2 c3 u ((pH, pF, pT), ca, dy) nd))), (24, .int (nI nd)), (6, .int x9), (5, .int (nI tm9)), (4, .int (nI (toN Z))), (3, .ref s), (2, .ref t9), (1, .ref (x 0)), (0, .ref (zms Z 3))] rfl ?_
      refine J_room (rc2 := 5 * (6 - (k + 1)) + (0 + 1 * (rc + 0))) (rs2 := 18 * (6 - (k + 1)) + (0 + 1 * (rs + 0))) (by omega) (by omega) ?_
      exact ih (h4_, f4_, t4_, c4_, (dd1 + 1), w5) ⟨en4, o4_, hC5⟩
    · refine J_lvm [(28, .int cc1), (27, .int (nI (k + 1))), (26, .int (nI k0)), (25, .int (lgD (toN Z) pP (dyN (toN Z) pP op f1 f2 l0 hh c0 c1 c2 c3 u ((pH, pF, pT), ca, dy) nd))), (24, .int (nI nd)), (6, .int x9), (5, .int (nI tm9)), (4, .int (nI (toN Z))), (3, .ref s), (2, .ref t9), (1, .ref (x 0)), (0, .ref (zms Z 3))] rfl ?_
      refine J_iload C iL_law_1094 rfl ?_
      refine J_ifle 1133 C iL_law_1096 rfl (fun h1096 => absurd h1096 (fun e => by rw [show (0 : Int32) = nI 0 from rfl, nI_leI (by omega) (by decide)] at e; omega)) (fun h1096 => ?_)
      refine J_iload C iL_law_1099 rfl ?_
      refine J_iload C iL_law_1101 rfl ?_
      refine J_icmpgt 1133 C iL_law_1103 rfl (fun h1103 => absurd h1103 (nI_nlt (a := k0) (b := k + 1) (by omega) (by omega))) (fun h1103 => ?_)
      refine J_aload_n C iL_law_1106 rfl rfl ?_
      obtain ⟨fs6, hf6⟩ := CI.head hC5
      refine J_cVb (As := []) (st := []) (rc2 := 0 + 1 * (5 * (6 - (k + 1)) + (0 + 1 * (rc + 0)))) (rs2 := 0 + 1 * (18 * (6 - (k + 1)) + (0 + 1 * (rs + 0)))) (w0 := (w5)) (q0 := 0) C iL_law_1107 lm_L_240 yc_X8_allHoursLost yv_X8_allHoursLost (k_allHoursLost hC5 y1 o4_) rfl rfl hf6 (((wSim Z s (toN Z) (toM Z) hA lA oA tA eA (fun j => some (rw j)) (fun j => some (lr j)) fo ft fe (dd1 + 1) c4_ ++ wRw Z (toN Z) rw p h4_ f4_ t4_) ++ wPl Z L) ++ wLr Z (toM Z) lr (toK Z) (toV Z)) [] (by simp only [List.append_assoc, List.append_nil, List.nil_append]) rfl ⟨Nat.le_of_ble_eq_true rfl, Nat.le_of_ble_eq_true rfl⟩ (Nat.le_of_ble_eq_true rfl) (Nat.zero_add _).symm (Nat.zero_add _).symm ?_
      rintro _ w6 ⟨rfl, hC6⟩
      refine J_st (.int (nI (alN p h4_ f4_ t4_ (toN Z))) :: []) rfl ?_
      refine J_ws ((((wSim Z s (toN Z) (toM Z) hA lA oA tA eA (fun j => some (rw j)) (fun j => some (lr j)) fo ft fe (dd1 + 1) c4_ ++ wRw Z (toN Z) rw p h4_ f4_ t4_) ++ wPl Z L) ++ wLr Z (toM Z) lr (toK Z) (toV Z)) ++ w6) (by simp only [List.append_assoc, List.append_nil, List.nil_append]) ?_
      refine J_ifne 1117 C iL_law_1110 rfl (fun h1110 => absurd (show nI (alN p h4_ f4_ t4_ (toN Z)) = 0 by rw [hk3]; rfl) h1110) (fun h1110 => ?_)
      refine J_iconst 1 C iL_law_1113 rfl ?_
      refine J_goto 1118 C iL_law_1114 rfl ?_
      refine J_iload C iL_law_1118 rfl ?_
      refine J_iload C iL_law_1120 rfl ?_
      refine J_icmpne 1129 C iL_law_1122 rfl (fun h1122 => absurd (congrArg nI hk2.symm) h1122) (fun h1122 => ?_)
      refine J_iconst 1 C iL_law_1125 rfl ?_
      refine J_goto 1130 C iL_law_1126 rfl ?_
      refine J_icmpne 1145 C iL_law_1130 rfl (fun h1130 => absurd rfl h1130) (fun h1130 => ?_)
      refine J_iload C iL_law_1133 rfl ?_
      refine J_ifge 1147 C iL_law_1135 rfl (fun h1135 => ?_) (fun h1135 => absurd (nI_pos' (n := k0) (by omega)) h1135)
      refine J_iinc ((nI (k + 1)) + 1) [(27, .int ((nI (k + 1)) + 1)), (28, .int cc1), (26, .int (nI k0)), (25, .int (lgD (toN Z) pP (dyN (toN Z) pP op f1 f2 l0 hh c0 c1 c2 c3 u ((pH, pF, pT), ca, dy) nd))), (24, .int (nI nd)), (6, .int x9), (5, .int (nI tm9)), (4, .int (nI (toN Z))), (3, .ref s), (2, .ref t9), (1, .ref (x 0)), (0, .ref (zms Z 3))] C iL_law_1147 rfl rfl (by decide) rfl ?_
      rw [show (nI (k + 1)) + 1 = nI ((k + 1) + 1) from nI_add _ _]
      refine J_goto 1060 C iL_law_1150 rfl ?_
      refine J_lvm [(27, .int (nI ((k + 1) + 1))), (26, .int (nI k0)), (25, .int (lgD (toN Z) pP (dyN (toN Z) pP op f1 f2 l0 hh c0 c1 c2 c3 u ((pH, pF, pT), ca, dy) nd))), (24, .int (nI nd)), (6, .int x9), (5, .int (nI tm9)), (4, .int (nI (toN Z))), (3, .ref s), (2, .ref t9), (1, .ref (x 0)), (0, .ref (zms Z 3))] rfl ?_
      refine J_room (rc2 := 5 * (6 - (k + 1)) + (0 + 1 * (rc + 0))) (rs2 := 18 * (6 - (k + 1)) + (0 + 1 * (rs + 0))) (by omega) (by omega) ?_
      exact ih (h4_, f4_, t4_, c4_, (dd1 + 1), w6) ⟨en4, o4_, hC6⟩
    · refine J_lvm [(28, .int cc1), (27, .int (nI (k + 1))), (26, .int (nI k0)), (25, .int (lgD (toN Z) pP (dyN (toN Z) pP op f1 f2 l0 hh c0 c1 c2 c3 u ((pH, pF, pT), ca, dy) nd))), (24, .int (nI nd)), (6, .int x9), (5, .int (nI tm9)), (4, .int (nI (toN Z))), (3, .ref s), (2, .ref t9), (1, .ref (x 0)), (0, .ref (zms Z 3))] rfl ?_
      refine J_iload C iL_law_1094 rfl ?_
      refine J_ifle 1133 C iL_law_1096 rfl (fun h1096 => absurd h1096 (fun e => by rw [show (0 : Int32) = nI 0 from rfl, nI_leI (by omega) (by decide)] at e; omega)) (fun h1096 => ?_)
      refine J_iload C iL_law_1099 rfl ?_
      refine J_iload C iL_law_1101 rfl ?_
      refine J_icmpgt 1133 C iL_law_1103 rfl (fun h1103 => absurd h1103 (nI_nlt (a := k0) (b := k + 1) (by omega) (by omega))) (fun h1103 => ?_)
      refine J_aload_n C iL_law_1106 rfl rfl ?_
      obtain ⟨fs7, hf7⟩ := CI.head hC5
      refine J_cVb (As := []) (st := []) (rc2 := 0 + 1 * (5 * (6 - (k + 1)) + (0 + 1 * (rc + 0)))) (rs2 := 0 + 1 * (18 * (6 - (k + 1)) + (0 + 1 * (rs + 0)))) (w0 := (w5)) (q0 := 0) C iL_law_1107 lm_L_240 yc_X8_allHoursLost yv_X8_allHoursLost (k_allHoursLost hC5 y1 o4_) rfl rfl hf7 (((wSim Z s (toN Z) (toM Z) hA lA oA tA eA (fun j => some (rw j)) (fun j => some (lr j)) fo ft fe (dd1 + 1) c4_ ++ wRw Z (toN Z) rw p h4_ f4_ t4_) ++ wPl Z L) ++ wLr Z (toM Z) lr (toK Z) (toV Z)) [] (by simp only [List.append_assoc, List.append_nil, List.nil_append]) rfl ⟨Nat.le_of_ble_eq_true rfl, Nat.le_of_ble_eq_true rfl⟩ (Nat.le_of_ble_eq_true rfl) (Nat.zero_add _).symm (Nat.zero_add _).symm ?_
      rintro _ w7 ⟨rfl, hC7⟩
      refine J_st (.int (nI (alN p h4_ f4_ t4_ (toN Z))) :: []) rfl ?_
      refine J_ws ((((wSim Z s (toN Z) (toM Z) hA lA oA tA eA (fun j => some (rw j)) (fun j => some (lr j)) fo ft fe (dd1 + 1) c4_ ++ wRw Z (toN Z) rw p h4_ f4_ t4_) ++ wPl Z L) ++ wLr Z (toM Z) lr (toK Z) (toV Z)) ++ w7) (by simp only [List.append_assoc, List.append_nil, List.nil_append]) ?_
      refine J_ifne 1117 C iL_law_1110 rfl (fun h1110 => ?_) (fun h1110 => absurd h1110 (fun e => hk3 ((nI_eq (b := 0) (by omega) (by decide)).mp e)))
      refine J_iconst 0 C iL_law_1117 rfl ?_
      refine J_iload C iL_law_1118 rfl ?_
      refine J_iload C iL_law_1120 rfl ?_
      refine J_icmpne 1129 C iL_law_1122 rfl (fun h1122 => ?_) (fun h1122 => absurd h1122 (fun e => absurd ((nI_eq (by omega) (by omega)).mp e) (by omega)))
      refine J_iconst 0 C iL_law_1129 rfl ?_
      refine J_icmpne 1145 C iL_law_1130 rfl (fun h1130 => absurd rfl h1130) (fun h1130 => ?_)
      refine J_iload C iL_law_1133 rfl ?_
      refine J_ifge 1147 C iL_law_1135 rfl (fun h1135 => ?_) (fun h1135 => absurd (nI_pos' (n := k0) (by omega)) h1135)
      refine J_iinc ((nI (k + 1)) + 1) [(27, .int ((nI (k + 1)) + 1)), (28, .int cc1), (26, .int (nI k0)), (25, .int (lgD (toN Z) pP (dyN (toN Z) pP op f1 f2 l0 hh c0 c1 c2 c3 u ((pH, pF, pT), ca, dy) nd))), (24, .int (nI nd)), (6, .int x9), (5, .int (nI tm9)), (4, .int (nI (toN Z))), (3, .ref s), (2, .ref t9), (1, .ref (x 0)), (0, .ref (zms Z 3))] C iL_law_1147 rfl rfl (by decide) rfl ?_
      rw [show (nI (k + 1)) + 1 = nI ((k + 1) + 1) from nI_add _ _]
      refine J_goto 1060 C iL_law_1150 rfl ?_
      refine J_lvm [(27, .int (nI ((k + 1) + 1))), (26, .int (nI k0)), (25, .int (lgD (toN Z) pP (dyN (toN Z) pP op f1 f2 l0 hh c0 c1 c2 c3 u ((pH, pF, pT), ca, dy) nd))), (24, .int (nI nd)), (6, .int x9), (5, .int (nI tm9)), (4, .int (nI (toN Z))), (3, .ref s), (2, .ref t9), (1, .ref (x 0)), (0, .ref (zms Z 3))] rfl ?_
      refine J_room (rc2 := 5 * (6 - (k + 1)) + (0 + 1 * (rc + 0))) (rs2 := 18 * (6 - (k + 1)) + (0 + 1 * (rs + 0))) (by omega) (by omega) ?_
      exact ih (h4_, f4_, t4_, c4_, (dd1 + 1), w7) ⟨en4, o4_, hC7⟩
    · refine J_lvm [(28, .int cc1), (27, .int (nI (k + 1))), (26, .int (-1)), (25, .int (lgD (toN Z) pP (dyN (toN Z) pP op f1 f2 l0 hh c0 c1 c2 c3 u ((pH, pF, pT), ca, dy) nd))), (24, .int (nI nd)), (6, .int x9), (5, .int (nI tm9)), (4, .int (nI (toN Z))), (3, .ref s), (2, .ref t9), (1, .ref (x 0)), (0, .ref (zms Z 3))] rfl ?_
      refine J_iload C iL_law_1094 rfl ?_
      refine J_ifle 1133 C iL_law_1096 rfl (fun h1096 => ?_) (fun h1096 => absurd (by decide) h1096)
      refine J_iload C iL_law_1133 rfl ?_
      refine J_ifge 1147 C iL_law_1135 rfl (fun h1135 => absurd h1135 (by decide)) (fun h1135 => ?_)
      refine J_aload_n C iL_law_1138 rfl rfl ?_
      obtain ⟨fs8, hf8⟩ := CI.head hC5
      refine J_cVb (As := []) (st := []) (rc2 := 0 + 1 * (5 * (6 - (k + 1)) + (0 + 1 * (rc + 0)))) (rs2 := 0 + 1 * (18 * (6 - (k + 1)) + (0 + 1 * (rs + 0)))) (w0 := (w5)) (q0 := 0) C iL_law_1139 lm_L_240 yc_X8_allHoursLost yv_X8_allHoursLost (k_allHoursLost hC5 y1 o4_) rfl rfl hf8 (((wSim Z s (toN Z) (toM Z) hA lA oA tA eA (fun j => some (rw j)) (fun j => some (lr j)) fo ft fe (dd1 + 1) c4_ ++ wRw Z (toN Z) rw p h4_ f4_ t4_) ++ wPl Z L) ++ wLr Z (toM Z) lr (toK Z) (toV Z)) [] (by simp only [List.append_assoc, List.append_nil, List.nil_append]) rfl ⟨Nat.le_of_ble_eq_true rfl, Nat.le_of_ble_eq_true rfl⟩ (Nat.le_of_ble_eq_true rfl) (Nat.zero_add _).symm (Nat.zero_add _).symm ?_
      rintro _ w8 ⟨rfl, hC8⟩
      refine J_st (.int (nI (alN p h4_ f4_ t4_ (toN Z))) :: []) rfl ?_
      refine J_ws ((((wSim Z s (toN Z) (toM Z) hA lA oA tA eA (fun j => some (rw j)) (fun j => some (lr j)) fo ft fe (dd1 + 1) c4_ ++ wRw Z (toN Z) rw p h4_ f4_ t4_) ++ wPl Z L) ++ wLr Z (toM Z) lr (toK Z) (toV Z)) ++ w8) (by simp only [List.append_assoc, List.append_nil, List.nil_append]) ?_
      refine J_ifne 1147 C iL_law_1142 rfl (fun h1142 => ?_) (fun h1142 => absurd h1142 (fun e => hk3 ((nI_eq (b := 0) (by omega) (by decide)).mp e)))
      refine J_iinc ((nI (k + 1)) + 1) [(27, .int ((nI (k + 1)) + 1)), (28, .int cc1), (26, .int (-1)), (25, .int (lgD (toN Z) pP (dyN (toN Z) pP op f1 f2 l0 hh c0 c1 c2 c3 u ((pH, pF, pT), ca, dy) nd))), (24, .int (nI nd)), (6, .int x9), (5, .int (nI tm9)), (4, .int (nI (toN Z))), (3, .ref s), (2, .ref t9), (1, .ref (x 0)), (0, .ref (zms Z 3))] C iL_law_1147 rfl rfl (by decide) rfl ?_
      rw [show (nI (k + 1)) + 1 = nI ((k + 1) + 1) from nI_add _ _]
      refine J_goto 1060 C iL_law_1150 rfl ?_
      refine J_lvm [(27, .int (nI ((k + 1) + 1))), (26, .int (-1)), (25, .int (lgD (toN Z) pP (dyN (toN Z) pP op f1 f2 l0 hh c0 c1 c2 c3 u ((pH, pF, pT), ca, dy) nd))), (24, .int (nI nd)), (6, .int x9), (5, .int (nI tm9)), (4, .int (nI (toN Z))), (3, .ref s), (2, .ref t9), (1, .ref (x 0)), (0, .ref (zms Z 3))] rfl ?_
      refine J_room (rc2 := 5 * (6 - (k + 1)) + (0 + 1 * (rc + 0))) (rs2 := 18 * (6 - (k + 1)) + (0 + 1 * (rs + 0))) (by omega) (by omega) ?_
      exact ih (h4_, f4_, t4_, c4_, (dd1 + 1), w8) ⟨en4, o4_, hC8⟩

