set_option maxRecDepth 100000 in
set_option maxHeartbeats 4000000 in
theorem law_mid {Z : GZ} {X : CX} {Q : State → Prop} {rc rs : Nat} {x : Nat → Nat} {u tm : Nat} {er : Int32} {pP pH pF pT op f1 f2 l0 tb : Nat → Int32} {hh c0 c1 c2 c3 : Nat → Nat} {s hA lA oA tA eA : Nat} {rw lr p h f t : Nat → Nat} {fo ft fe : Nat → Option Nat} {L : List TC} {dy ca : Int32} {wc : va_W} {t9 tm9 : Nat} {x9 : Int32} (C : Cx Z X cL_law 29 RL) (hl : (cL X).stackTraces = false) (hC : CI Z x (toN Z) u tm er dy ca pP pH pF pT op f1 f2 l0 hh c0 c1 c2 c3 tb wc) (eq0 : EqS (toN Z) pP pH pF pT p h f t) (ok0 : SnOk (toN Z) p h f t) (next : ∀ dg9, dgCn (toN Z) u dy ca pP pH pF pT = dg9 → ∀ w9, CI Z x (toN Z) u tm er dy ca pP pH pF pT op f1 f2 l0 hh c0 c1 c2 c3 tb w9 → Jd Z X room_1 29 Q rc rs 710 [(9, .int (nI (alN p h f t (toN Z)))), (7, .long dg9), (6, .int x9), (5, .int (nI tm9)), (4, .int (nI (toN Z))), (3, .ref s), (2, .ref t9), (1, .ref (x 0)), (0, .ref (zms Z 3))] [] ((((wSim Z s (toN Z) (toM Z) hA lA oA tA eA (fun j => some (rw j)) (fun j => some (lr j)) fo ft fe dy ca ++ wRw Z (toN Z) rw p h f t) ++ wPl Z L) ++ wLr Z (toM Z) lr (toK Z) (toV Z)) ++ w9)) : Jd Z X room_1 29 Q (43980 + 1 * (rc + 0)) (264100 + 1 * (rs + 0)) 106 [(6, .int x9), (5, .int (nI tm9)), (4, .int (nI (toN Z))), (3, .ref s), (2, .ref t9), (1, .ref (x 0)), (0, .ref (zms Z 3))] [] ((((wSim Z s (toN Z) (toM Z) hA lA oA tA eA (fun j => some (rw j)) (fun j => some (lr j)) fo ft fe dy ca ++ wRw Z (toN Z) rw p h f t) ++ wPl Z L) ++ wLr Z (toM Z) lr (toK Z) (toV Z)) ++ wc) := by
  have hto := toN_in Z
  have hal := alN_le p h f t (n := toN Z) (by omega)
  refine J_aload_n C iL_law_106 rfl rfl ?_
  obtain ⟨fs1, hf1⟩ := CI.head hC
  refine J_cVb (As := []) (st := []) (rc2 := 43980 + 1 * (rc + 0)) (rs2 := 264100 + 1 * (rs + 0)) (w0 := (wc)) (q0 := 0) C iL_law_107 lm_L_177 yc_X8_digest yv_X8_digest (k_digest hC eq0 ok0) rfl rfl hf1 (((wSim Z s (toN Z) (toM Z) hA lA oA tA eA (fun j => some (rw j)) (fun j => some (lr j)) fo ft fe dy ca ++ wRw Z (toN Z) rw p h f t) ++ wPl Z L) ++ wLr Z (toM Z) lr (toK Z) (toV Z)) [] (by simp only [List.append_assoc, List.append_nil, List.nil_append]) rfl ⟨Nat.le_of_ble_eq_true rfl, Nat.le_of_ble_eq_true rfl⟩ (Nat.le_of_ble_eq_true rfl) (Nat.zero_add _).symm (Nat.zero_add _).symm ?_
  rintro _ w1 ⟨rfl, hC1⟩
  refine J_st (.long (dgCn (toN Z) u dy ca pP pH pF pT) :: []) rfl ?_
  refine J_ws ((((wSim Z s (toN Z) (toM Z) hA lA oA tA eA (fun j => some (rw j)) (fun j => some (lr j)) fo ft fe dy ca ++ wRw Z (toN Z) rw p h f t) ++ wPl Z L) ++ wLr Z (toM Z) lr (toK Z) (toV Z)) ++ w1) (by simp only [List.append_assoc, List.append_nil, List.nil_append]) ?_
  obtain ⟨dg9, hdg⟩ : ∃ d, dgCn (toN Z) u dy ca pP pH pF pT = d := ⟨_, rfl⟩
  refine J_st (.long dg9 :: []) (by rw [hdg]) ?_
  refine J_lstore [(7, .long dg9), (6, .int x9), (5, .int (nI tm9)), (4, .int (nI (toN Z))), (3, .ref s), (2, .ref t9), (1, .ref (x 0)), (0, .ref (zms Z 3))] C iL_law_110 (by decide) rfl ?_
  refine J_iconst 0 C iL_law_112 rfl ?_
  refine J_istore [(9, .int 0), (7, .long dg9), (6, .int x9), (5, .int (nI tm9)), (4, .int (nI (toN Z))), (3, .ref s), (2, .ref t9), (1, .ref (x 0)), (0, .ref (zms Z 3))] C iL_law_113 (by decide) rfl ?_
  refine J_iconst 0 C iL_law_115 rfl ?_
  refine J_istore [(10, .int 0), (9, .int 0), (7, .long dg9), (6, .int x9), (5, .int (nI tm9)), (4, .int (nI (toN Z))), (3, .ref s), (2, .ref t9), (1, .ref (x 0)), (0, .ref (zms Z 3))] C iL_law_116 (by decide) rfl ?_
  refine J_iconst 0 C iL_law_118 rfl ?_
  refine J_istore [(11, .int 0), (10, .int 0), (9, .int 0), (7, .long dg9), (6, .int x9), (5, .int (nI tm9)), (4, .int (nI (toN Z))), (3, .ref s), (2, .ref t9), (1, .ref (x 0)), (0, .ref (zms Z 3))] C iL_law_119 (by decide) rfl ?_
  refine J_bipush 24 C iL_law_121 rfl ?_
  refine J_room (rc2 := 1 + (43979 + 1 * (rc + 0))) (rs2 := 24 + (264076 + 1 * (rs + 0))) (by omega) (by omega) ?_
  refine J_newI 24 C iL_law_123 (tsg_in (i := 132) (by decide +kernel) rfl) (by decide) rfl (by omega) (fun n1 => ?_)
  refine J_ws (((((wSim Z s (toN Z) (toM Z) hA lA oA tA eA (fun j => some (rw j)) (fun j => some (lr j)) fo ft fe dy ca ++ wRw Z (toN Z) rw p h f t) ++ wPl Z L) ++ wLr Z (toM Z) lr (toK Z) (toV Z)) ++ w1) ++ arrI Z n1 24 (fun _ => 0)) rfl ?_
  refine J_perm (((((wSim Z s (toN Z) (toM Z) hA lA oA tA eA (fun j => some (rw j)) (fun j => some (lr j)) fo ft fe dy ca ++ wRw Z (toN Z) rw p h f t) ++ wPl Z L) ++ wLr Z (toM Z) lr (toK Z) (toV Z)) ++ arrI Z n1 24 (fun _ => 0)) ++ w1) (sw2 _ _ _) ?_
  refine J_perm (((((wSim Z s (toN Z) (toM Z) hA lA oA tA eA (fun j => some (rw j)) (fun j => some (lr j)) fo ft fe dy ca ++ wRw Z (toN Z) rw p h f t) ++ wPl Z L) ++ arrI Z n1 24 (fun _ => 0)) ++ wLr Z (toM Z) lr (toK Z) (toV Z)) ++ w1) ((sw2 _ _ _).append_right _) ?_
  refine J_perm (((((wSim Z s (toN Z) (toM Z) hA lA oA tA eA (fun j => some (rw j)) (fun j => some (lr j)) fo ft fe dy ca ++ wRw Z (toN Z) rw p h f t) ++ arrI Z n1 24 (fun _ => 0)) ++ wPl Z L) ++ wLr Z (toM Z) lr (toK Z) (toV Z)) ++ w1) (((sw2 _ _ _).append_right _).append_right _) ?_
  refine J_perm (((((wSim Z s (toN Z) (toM Z) hA lA oA tA eA (fun j => some (rw j)) (fun j => some (lr j)) fo ft fe dy ca ++ arrI Z n1 24 (fun _ => 0)) ++ wRw Z (toN Z) rw p h f t) ++ wPl Z L) ++ wLr Z (toM Z) lr (toK Z) (toV Z)) ++ w1) ((((sw2 _ _ _).append_right _).append_right _).append_right _) ?_
  refine J_perm (((((arrI Z n1 24 (fun _ => 0) ++ wSim Z s (toN Z) (toM Z) hA lA oA tA eA (fun j => some (rw j)) (fun j => some (lr j)) fo ft fe dy ca) ++ wRw Z (toN Z) rw p h f t) ++ wPl Z L) ++ wLr Z (toM Z) lr (toK Z) (toV Z)) ++ w1) ((((List.perm_append_comm.append_right _).append_right _).append_right _).append_right _) ?_
  refine J_astore [(12, .ref n1), (11, .int 0), (10, .int 0), (9, .int 0), (7, .long dg9), (6, .int x9), (5, .int (nI tm9)), (4, .int (nI (toN Z))), (3, .ref s), (2, .ref t9), (1, .ref (x 0)), (0, .ref (zms Z 3))] C iL_law_125 (by decide) rfl ?_
  refine J_iconst 0 C iL_law_127 rfl ?_
  refine J_istore [(13, .int 0), (12, .ref n1), (11, .int 0), (10, .int 0), (9, .int 0), (7, .long dg9), (6, .int x9), (5, .int (nI tm9)), (4, .int (nI (toN Z))), (3, .ref s), (2, .ref t9), (1, .ref (x 0)), (0, .ref (zms Z 3))] C iL_law_128 (by decide) rfl ?_
  refine J_room (rc2 := 4880 * (9 - 0) + (40 + 1 * (rc + 0))) (rs2 := 29300 * (9 - 0) + (300 + 1 * (rs + 0))) (by omega) (by omega) ?_
  refine J_lvm [(13, .int (nI 0)), (12, .ref n1), (11, .int (nI (cnN (fun a => decide (loN p h f t (toN Z) a = 0)) 0))), (10, .int (nI (smN (fun a => caN p h f t (toN Z) a) 0))), (9, .int (nI (smN (fun a => loN p h f t (toN Z) a) 0))), (7, .long dg9), (6, .int x9), (5, .int (nI tm9)), (4, .int (nI (toN Z))), (3, .ref s), (2, .ref t9), (1, .ref (x 0)), (0, .ref (zms Z 3))] (by rfl) ?_
  refine J_ws (((((arrI Z n1 24 (fun i => nI (cnN ((fun k a => dkN p h f t (toN Z) a k) i) 0)) ++ wSim Z s (toN Z) (toM Z) hA lA oA tA eA (fun j => some (rw j)) (fun j => some (lr j)) fo ft fe dy ca) ++ wRw Z (toN Z) rw p h f t) ++ wPl Z L) ++ wLr Z (toM Z) lr (toK Z) (toV Z)) ++ w1) rfl ?_
  refine J_forR (σ := va_W) (fun a => 4880 * (9 - a) + (40 + 1 * (rc + 0))) (fun a => 29300 * (9 - a) + (300 + 1 * (rs + 0))) (fun a q9 => [(13, .int (nI a)), (12, .ref n1), (11, .int (nI (cnN (fun a => decide (loN p h f t (toN Z) a = 0)) a))), (10, .int (nI (smN (fun a => caN p h f t (toN Z) a) a))), (9, .int (nI (smN (fun a => loN p h f t (toN Z) a) a))), (7, .long dg9), (6, .int x9), (5, .int (nI tm9)), (4, .int (nI (toN Z))), (3, .ref s), (2, .ref t9), (1, .ref (x 0)), (0, .ref (zms Z 3))]) (fun a q9 => (((((arrI Z n1 24 (fun i => nI (cnN ((fun k a => dkN p h f t (toN Z) a k) i) a)) ++ wSim Z s (toN Z) (toM Z) hA lA oA tA eA (fun j => some (rw j)) (fun j => some (lr j)) fo ft fe dy ca) ++ wRw Z (toN Z) rw p h f t) ++ wPl Z L) ++ wLr Z (toM Z) lr (toK Z) (toV Z)) ++ q9)) (fun a q9 => CI Z x (toN Z) u tm er dy ca pP pH pF pT op f1 f2 l0 hh c0 c1 c2 c3 tb q9) (toN Z) 0 (w1) (by omega) hC1 ?_ ?_
  · rintro wv3 hH
    refine J_room (rc2 := 40 + 1 * (rc + 0)) (rs2 := 300 + 1 * (rs + 0)) (by omega) (by omega) ?_
    refine J_iload C iL_law_130 rfl ?_
    refine J_iload C iL_law_132 rfl ?_
    refine J_icmpge 616 C iL_law_134 rfl (fun h134 => ?_) (fun h134 => absurd (nI_le (a := toN Z) (b := toN Z) (by omega) (by omega)) h134)
    refine J_iconst 0 C iL_law_616 rfl ?_
    refine J_istore [(13, .int 0), (12, .ref n1), (11, .int (nI (cnN (fun a => decide (loN p h f t (toN Z) a = 0)) (toN Z)))), (10, .int (nI (smN (fun a => caN p h f t (toN Z) a) (toN Z)))), (9, .int (nI (smN (fun a => loN p h f t (toN Z) a) (toN Z)))), (7, .long dg9), (6, .int x9), (5, .int (nI tm9)), (4, .int (nI (toN Z))), (3, .ref s), (2, .ref t9), (1, .ref (x 0)), (0, .ref (zms Z 3))] C iL_law_617 (by decide) rfl ?_
    refine J_room (rc2 := 1 * (24 - 0) + (10 + 1 * (rc + 0))) (rs2 := 6 * (24 - 0) + (60 + 1 * (rs + 0))) (by omega) (by omega) ?_
    refine J_lvm [(13, .int (nI 0)), (12, .ref n1), (11, .int (nI (cnN (fun a => decide (loN p h f t (toN Z) a = 0)) (toN Z)))), (10, .int (nI (smN (fun a => caN p h f t (toN Z) a) (toN Z)))), (9, .int (nI (smN (fun a => loN p h f t (toN Z) a) (toN Z)))), (7, .long dg9), (6, .int x9), (5, .int (nI tm9)), (4, .int (nI (toN Z))), (3, .ref s), (2, .ref t9), (1, .ref (x 0)), (0, .ref (zms Z 3))] (by rfl) ?_
    refine J_forR (σ := va_W) (fun q => 1 * (24 - q) + (10 + 1 * (rc + 0))) (fun q => 6 * (24 - q) + (60 + 1 * (rs + 0))) (fun q q9 => [(13, .int (nI q)), (12, .ref n1), (11, .int (nI (cnN (fun a => decide (loN p h f t (toN Z) a = 0)) (toN Z)))), (10, .int (nI (smN (fun a => caN p h f t (toN Z) a) (toN Z)))), (9, .int (nI (smN (fun a => loN p h f t (toN Z) a) (toN Z)))), (7, .long dg9), (6, .int x9), (5, .int (nI tm9)), (4, .int (nI (toN Z))), (3, .ref s), (2, .ref t9), (1, .ref (x 0)), (0, .ref (zms Z 3))]) (fun q q9 => (((((arrI Z n1 24 (fun i => nI (cnN ((fun k a => dkN p h f t (toN Z) a k) i) (toN Z))) ++ wSim Z s (toN Z) (toM Z) hA lA oA tA eA (fun j => some (rw j)) (fun j => some (lr j)) fo ft fe dy ca) ++ wRw Z (toN Z) rw p h f t) ++ wPl Z L) ++ wLr Z (toM Z) lr (toK Z) (toV Z)) ++ q9)) (fun q q9 => CI Z x (toN Z) u tm er dy ca pP pH pF pT op f1 f2 l0 hh c0 c1 c2 c3 tb q9) 24 0 (wv3) (by omega) hH ?_ ?_
    · rintro wv5 hE
      refine J_room (rc2 := 10 + 1 * (rc + 0)) (rs2 := 60 + 1 * (rs + 0)) (by omega) (by omega) ?_
      refine J_iload C iL_law_619 rfl ?_
      refine J_bipush 24 C iL_law_621 rfl ?_
      refine J_icmpge 648 C iL_law_623 rfl (fun h623 => ?_) (fun h623 => absurd (by decide) h623)
      refine J_iload C iL_law_648 rfl ?_
      refine J_aload_n C iL_law_650 rfl rfl ?_
      obtain ⟨fs2, hf2⟩ := CI.head hE
      refine J_cVb (As := []) (st := .int (nI (smN (fun a => loN p h f t (toN Z) a) (toN Z))) :: []) (rc2 := 10 + 1 * (rc + 0)) (rs2 := 60 + 1 * (rs + 0)) (w0 := (wv5)) (q0 := 0) C iL_law_651 lm_L_240 yc_X8_allHoursLost yv_X8_allHoursLost (k_allHoursLost hE eq0 ok0) rfl rfl hf2 ((((arrI Z n1 24 (fun i => nI (cnN ((fun k a => dkN p h f t (toN Z) a k) i) (toN Z))) ++ wSim Z s (toN Z) (toM Z) hA lA oA tA eA (fun j => some (rw j)) (fun j => some (lr j)) fo ft fe dy ca) ++ wRw Z (toN Z) rw p h f t) ++ wPl Z L) ++ wLr Z (toM Z) lr (toK Z) (toV Z)) [] (by simp only [List.append_assoc, List.append_nil, List.nil_append]) rfl ⟨Nat.le_of_ble_eq_true rfl, Nat.le_of_ble_eq_true rfl⟩ (Nat.le_of_ble_eq_true rfl) (Nat.zero_add _).symm (Nat.zero_add _).symm ?_
      rintro _ w2 ⟨rfl, hC2⟩
      refine J_st (.int (nI (alN p h f t (toN Z))) :: .int (nI (smN (fun a => loN p h f t (toN Z) a) (toN Z))) :: []) rfl ?_
      refine J_ws (((((arrI Z n1 24 (fun i => nI (cnN ((fun k a => dkN p h f t (toN Z) a k) i) (toN Z))) ++ wSim Z s (toN Z) (toM Z) hA lA oA tA eA (fun j => some (rw j)) (fun j => some (lr j)) fo ft fe dy ca) ++ wRw Z (toN Z) rw p h f t) ++ wPl Z L) ++ wLr Z (toM Z) lr (toK Z) (toV Z)) ++ w2) (by simp only [List.append_assoc, List.append_nil, List.nil_append]) ?_
      refine J_icmpne 708 C iL_law_654 rfl (fun h654 => absurd rfl h654) (fun h654 => ?_)
      refine J_iload C iL_law_657 rfl ?_
      refine J_iload C iL_law_659 rfl ?_
      refine J_icmplt 708 C iL_law_661 rfl (fun h661 => absurd h661 (nI_nlt (a := smN (fun a => caN p h f t (toN Z) a) (toN Z)) (b := smN (fun a => loN p h f t (toN Z) a) (toN Z)) (ca_al ok0) (by have := smN_le (g := (fun a => caN p h f t (toN Z) a)) (c := 288) (k := toN Z) (fun i _ => caN_le p h f t (n := toN Z) (by omega) i); omega))) (fun h661 => ?_)
      refine J_iload C iL_law_664 rfl ?_
      refine J_aload_n C iL_law_666 rfl rfl ?_
      obtain ⟨fs3, hf3⟩ := CI.head hC2
      refine J_cVb (As := []) (st := .int (nI (cnN (fun a => decide (loN p h f t (toN Z) a = 0)) (toN Z))) :: []) (rc2 := 10 + 1 * (rc + 0)) (rs2 := 60 + 1 * (rs + 0)) (w0 := (w2)) (q0 := 0) C iL_law_667 lm_L_243 yc_X8_lightHouses yv_X8_lightHouses (k_lightHouses hC2 eq0 ok0) rfl rfl hf3 ((((arrI Z n1 24 (fun i => nI (cnN ((fun k a => dkN p h f t (toN Z) a k) i) (toN Z))) ++ wSim Z s (toN Z) (toM Z) hA lA oA tA eA (fun j => some (rw j)) (fun j => some (lr j)) fo ft fe dy ca) ++ wRw Z (toN Z) rw p h f t) ++ wPl Z L) ++ wLr Z (toM Z) lr (toK Z) (toV Z)) [] (by simp only [List.append_assoc, List.append_nil, List.nil_append]) rfl ⟨Nat.le_of_ble_eq_true rfl, Nat.le_of_ble_eq_true rfl⟩ (Nat.le_of_ble_eq_true rfl) (Nat.zero_add _).symm (Nat.zero_add _).symm ?_
      rintro _ w3 ⟨rfl, hC3⟩
      refine J_st (.int (nI (cnN (fun a => decide (loN p h f t (toN Z) a = 0)) (toN Z))) :: .int (nI (cnN (fun a => decide (loN p h f t (toN Z) a = 0)) (toN Z))) :: []) rfl ?_
      refine J_ws (((((arrI Z n1 24 (fun i => nI (cnN ((fun k a => dkN p h f t (toN Z) a k) i) (toN Z))) ++ wSim Z s (toN Z) (toM Z) hA lA oA tA eA (fun j => some (rw j)) (fun j => some (lr j)) fo ft fe dy ca) ++ wRw Z (toN Z) rw p h f t) ++ wPl Z L) ++ wLr Z (toM Z) lr (toK Z) (toV Z)) ++ w3) (by simp only [List.append_assoc, List.append_nil, List.nil_append]) ?_
      refine J_icmpne 708 C iL_law_670 rfl (fun h670 => absurd rfl h670) (fun h670 => ?_)
      refine J_aload_n C iL_law_673 rfl rfl ?_
      obtain ⟨fs4, hf4⟩ := CI.head hC3
      refine J_cVb (As := []) (st := []) (rc2 := 10 + 1 * (rc + 0)) (rs2 := 60 + 1 * (rs + 0)) (w0 := (w3)) (q0 := 0) C iL_law_674 lm_L_246 yc_X8_daysUntilLight yv_X8_daysUntilLight (k_daysUntilLight hC3 eq0 ok0) rfl rfl hf4 ((((arrI Z n1 24 (fun i => nI (cnN ((fun k a => dkN p h f t (toN Z) a k) i) (toN Z))) ++ wSim Z s (toN Z) (toM Z) hA lA oA tA eA (fun j => some (rw j)) (fun j => some (lr j)) fo ft fe dy ca) ++ wRw Z (toN Z) rw p h f t) ++ wPl Z L) ++ wLr Z (toM Z) lr (toK Z) (toV Z)) [] (by simp only [List.append_assoc, List.append_nil, List.nil_append]) rfl ⟨Nat.le_of_ble_eq_true rfl, Nat.le_of_ble_eq_true rfl⟩ (Nat.le_of_ble_eq_true rfl) (Nat.zero_add _).symm (Nat.zero_add _).symm ?_
      rintro _ w4 ⟨rfl, hC4⟩
      refine J_st (.int (duX (toN Z) pP op f1 f2 l0 hh c0 c1 c2 c3 u ((pH, pF, pT), ca, dy)) :: []) rfl ?_
      refine J_ws (((((arrI Z n1 24 (fun i => nI (cnN ((fun k a => dkN p h f t (toN Z) a k) i) (toN Z))) ++ wSim Z s (toN Z) (toM Z) hA lA oA tA eA (fun j => some (rw j)) (fun j => some (lr j)) fo ft fe dy ca) ++ wRw Z (toN Z) rw p h f t) ++ wPl Z L) ++ wLr Z (toM Z) lr (toK Z) (toV Z)) ++ w4) (by simp only [List.append_assoc, List.append_nil, List.nil_append]) ?_
      by_cases hz : alN p h f t (toN Z) = 0
      · refine J_ifne 684 C iL_law_677 rfl (fun h677 => absurd ((du_zero eq0 ok0).mpr hz) h677) (fun h677 => ?_)
        refine J_iconst 1 C iL_law_680 rfl ?_
        refine J_goto 685 C iL_law_681 rfl ?_
        refine J_iload C iL_law_685 rfl ?_
        refine J_ifne 694 C iL_law_687 rfl (fun h687 => absurd (show nI (smN (fun a => loN p h f t (toN Z) a) (toN Z)) = 0 from congrArg nI hz) h687) (fun h687 => ?_)
        refine J_iconst 1 C iL_law_690 rfl ?_
        refine J_goto 695 C iL_law_691 rfl ?_
        refine J_icmpne 708 C iL_law_695 rfl (fun h695 => absurd rfl h695) (fun h695 => ?_)
        refine J_aload_n C iL_law_698 rfl rfl ?_
        obtain ⟨fs5, hf5⟩ := CI.head hC4
        refine J_cVb (As := []) (st := []) (rc2 := 10 + 1 * (rc + 0)) (rs2 := 60 + 1 * (rs + 0)) (w0 := (w4)) (q0 := 0) C iL_law_699 lm_L_177 yc_X8_digest yv_X8_digest (k_digest hC4 eq0 ok0) rfl rfl hf5 ((((arrI Z n1 24 (fun i => nI (cnN ((fun k a => dkN p h f t (toN Z) a k) i) (toN Z))) ++ wSim Z s (toN Z) (toM Z) hA lA oA tA eA (fun j => some (rw j)) (fun j => some (lr j)) fo ft fe dy ca) ++ wRw Z (toN Z) rw p h f t) ++ wPl Z L) ++ wLr Z (toM Z) lr (toK Z) (toV Z)) [] (by simp only [List.append_assoc, List.append_nil, List.nil_append]) rfl ⟨Nat.le_of_ble_eq_true rfl, Nat.le_of_ble_eq_true rfl⟩ (Nat.le_of_ble_eq_true rfl) (Nat.zero_add _).symm (Nat.zero_add _).symm ?_
        rintro _ w5 ⟨rfl, hC5⟩
        refine J_st (.long (dgCn (toN Z) u dy ca pP pH pF pT) :: []) rfl ?_
        refine J_ws (((((arrI Z n1 24 (fun i => nI (cnN ((fun k a => dkN p h f t (toN Z) a k) i) (toN Z))) ++ wSim Z s (toN Z) (toM Z) hA lA oA tA eA (fun j => some (rw j)) (fun j => some (lr j)) fo ft fe dy ca) ++ wRw Z (toN Z) rw p h f t) ++ wPl Z L) ++ wLr Z (toM Z) lr (toK Z) (toV Z)) ++ w5) (by simp only [List.append_assoc, List.append_nil, List.nil_append]) ?_
        refine J_lload C iL_law_702 rfl ?_
        refine J_lcmp C iL_law_704 ?_
        refine J_ifeqL 710 C iL_law_705 rfl (fun h705 => ?_) (fun h705 => absurd hdg h705)
        refine J_drop [] (arrI Z n1 24 (fun i => nI (cnN ((fun k a => dkN p h f t (toN Z) a k) i) (toN Z)))) ((((wSim Z s (toN Z) (toM Z) hA lA oA tA eA (fun j => some (rw j)) (fun j => some (lr j)) fo ft fe dy ca ++ wRw Z (toN Z) rw p h f t) ++ wPl Z L) ++ wLr Z (toM Z) lr (toK Z) (toV Z)) ++ w5) (by simp only [List.append_assoc, List.append_nil, List.nil_append]) ?_
        refine J_ws ((((wSim Z s (toN Z) (toM Z) hA lA oA tA eA (fun j => some (rw j)) (fun j => some (lr j)) fo ft fe dy ca ++ wRw Z (toN Z) rw p h f t) ++ wPl Z L) ++ wLr Z (toM Z) lr (toK Z) (toV Z)) ++ w5) (by simp only [List.append_assoc, List.append_nil, List.nil_append]) ?_
        refine J_lvm [(9, .int (nI (alN p h f t (toN Z)))), (7, .long dg9), (6, .int x9), (5, .int (nI tm9)), (4, .int (nI (toN Z))), (3, .ref s), (2, .ref t9), (1, .ref (x 0)), (0, .ref (zms Z 3))] rfl ?_
        refine J_room (rc2 := rc) (rs2 := rs) (by omega) (by omega) ?_
        exact next dg9 hdg w5 hC5
      · refine J_ifne 684 C iL_law_677 rfl (fun h677 => ?_) (fun h677 => absurd h677 (fun z => hz ((du_zero eq0 ok0).mp z)))
        refine J_iconst 0 C iL_law_684 rfl ?_
        refine J_iload C iL_law_685 rfl ?_
        refine J_ifne 694 C iL_law_687 rfl (fun h687 => ?_) (fun h687 => absurd h687 (fun z => hz ((nI_eq (a := alN p h f t (toN Z)) (b := 0) (by omega) (by decide)).mp z)))
        refine J_iconst 0 C iL_law_694 rfl ?_
        refine J_icmpne 708 C iL_law_695 rfl (fun h695 => absurd rfl h695) (fun h695 => ?_)
        refine J_aload_n C iL_law_698 rfl rfl ?_
        obtain ⟨fs6, hf6⟩ := CI.head hC4
        refine J_cVb (As := []) (st := []) (rc2 := 10 + 1 * (rc + 0)) (rs2 := 60 + 1 * (rs + 0)) (w0 := (w4)) (q0 := 0) C iL_law_699 lm_L_177 yc_X8_digest yv_X8_digest (k_digest hC4 eq0 ok0) rfl rfl hf6 ((((arrI Z n1 24 (fun i => nI (cnN ((fun k a => dkN p h f t (toN Z) a k) i) (toN Z))) ++ wSim Z s (toN Z) (toM Z) hA lA oA tA eA (fun j => some (rw j)) (fun j => some (lr j)) fo ft fe dy ca) ++ wRw Z (toN Z) rw p h f t) ++ wPl Z L) ++ wLr Z (toM Z) lr (toK Z) (toV Z)) [] (by simp only [List.append_assoc, List.append_nil, List.nil_append]) rfl ⟨Nat.le_of_ble_eq_true rfl, Nat.le_of_ble_eq_true rfl⟩ (Nat.le_of_ble_eq_true rfl) (Nat.zero_add _).symm (Nat.zero_add _).symm ?_
        rintro _ w6 ⟨rfl, hC6⟩
        refine J_st (.long (dgCn (toN Z) u dy ca pP pH pF pT) :: []) rfl ?_
        refine J_ws (((((arrI Z n1 24 (fun i => nI (cnN ((fun k a => dkN p h f t (toN Z) a k) i) (toN Z))) ++ wSim Z s (toN Z) (toM Z) hA lA oA tA eA (fun j => some (rw j)) (fun j => some (lr j)) fo ft fe dy ca) ++ wRw Z (toN Z) rw p h f t) ++ wPl Z L) ++ wLr Z (toM Z) lr (toK Z) (toV Z)) ++ w6) (by simp only [List.append_assoc, List.append_nil, List.nil_append]) ?_
        refine J_lload C iL_law_702 rfl ?_
        refine J_lcmp C iL_law_704 ?_
        refine J_ifeqL 710 C iL_law_705 rfl (fun h705 => ?_) (fun h705 => absurd hdg h705)
        refine J_drop [] (arrI Z n1 24 (fun i => nI (cnN ((fun k a => dkN p h f t (toN Z) a k) i) (toN Z)))) ((((wSim Z s (toN Z) (toM Z) hA lA oA tA eA (fun j => some (rw j)) (fun j => some (lr j)) fo ft fe dy ca ++ wRw Z (toN Z) rw p h f t) ++ wPl Z L) ++ wLr Z (toM Z) lr (toK Z) (toV Z)) ++ w6) (by simp only [List.append_assoc, List.append_nil, List.nil_append]) ?_
        refine J_ws ((((wSim Z s (toN Z) (toM Z) hA lA oA tA eA (fun j => some (rw j)) (fun j => some (lr j)) fo ft fe dy ca ++ wRw Z (toN Z) rw p h f t) ++ wPl Z L) ++ wLr Z (toM Z) lr (toK Z) (toV Z)) ++ w6) (by simp only [List.append_assoc, List.append_nil, List.nil_append]) ?_
        refine J_lvm [(9, .int (nI (alN p h f t (toN Z)))), (7, .long dg9), (6, .int x9), (5, .int (nI tm9)), (4, .int (nI (toN Z))), (3, .ref s), (2, .ref t9), (1, .ref (x 0)), (0, .ref (zms Z 3))] rfl ?_
        refine J_room (rc2 := rc) (rs2 := rs) (by omega) (by omega) ?_
        exact next dg9 hdg w6 hC6
    · rintro q wv5 hq0 hq hE ihe
      refine J_room (rc2 := 1 + 1 * (1 * (24 - (q + 1)) + (10 + 1 * (rc + 0)))) (rs2 := 6 + 1 * (6 * (24 - (q + 1)) + (60 + 1 * (rs + 0)))) (by omega) (by omega) ?_
      refine J_iload C iL_law_619 rfl ?_
      refine J_bipush 24 C iL_law_621 rfl ?_
      refine J_icmpge 648 C iL_law_623 rfl (fun h623 => absurd h623 (nI_ge (a := q) (b := 24) (by omega) (by decide))) (fun h623 => ?_)
      refine J_aload_n C iL_law_626 rfl rfl ?_
      refine J_iload C iL_law_627 rfl ?_
      obtain ⟨fs7, hf7⟩ := CI.head hE
      refine J_room (rc2 := 1 + (0 + 1 * (1 * (24 - (q + 1)) + (10 + 1 * (rc + 0))))) (rs2 := 6 + (0 + 1 * (6 * (24 - (q + 1)) + (60 + 1 * (rs + 0))))) (by omega) (by omega) ?_
      refine J_cVb (As := [.int (nI q)]) (st := []) (rc2 := 0 + 1 * (1 * (24 - (q + 1)) + (10 + 1 * (rc + 0)))) (rs2 := 0 + 1 * (6 * (24 - (q + 1)) + (60 + 1 * (rs + 0)))) (w0 := (wv5)) (q0 := 0) C iL_law_629 lm_L_237 yc_X8_housesInTheDark yv_X8_housesInTheDark (k_housesInTheDark hl (k := q) hE eq0 ok0 (by omega)) rfl rfl hf7 ((((arrI Z n1 24 (fun i => nI (cnN ((fun k a => dkN p h f t (toN Z) a k) i) (toN Z))) ++ wSim Z s (toN Z) (toM Z) hA lA oA tA eA (fun j => some (rw j)) (fun j => some (lr j)) fo ft fe dy ca) ++ wRw Z (toN Z) rw p h f t) ++ wPl Z L) ++ wLr Z (toM Z) lr (toK Z) (toV Z)) [] (by simp only [List.append_assoc, List.append_nil, List.nil_append]) rfl ⟨Nat.le_of_ble_eq_true rfl, Nat.le_of_ble_eq_true rfl⟩ (Nat.le_of_ble_eq_true rfl) rfl rfl ?_
      rintro _ w7 ⟨rfl, hC7⟩
      refine J_st (.int (nI (cnN (fun a => dkN p h f t (toN Z) a q) (toN Z))) :: []) rfl ?_
      refine J_ws (((((arrI Z n1 24 (fun i => nI (cnN ((fun k a => dkN p h f t (toN Z) a k) i) (toN Z))) ++ wSim Z s (toN Z) (toM Z) hA lA oA tA eA (fun j => some (rw j)) (fun j => some (lr j)) fo ft fe dy ca) ++ wRw Z (toN Z) rw p h f t) ++ wPl Z L) ++ wLr Z (toM Z) lr (toK Z) (toV Z)) ++ w7) (by simp only [List.append_assoc, List.append_nil, List.nil_append]) ?_
      refine J_aload C iL_law_632 rfl ?_
      refine J_iload C iL_law_634 rfl ?_
      refine J_iald 0 C iL_law_636 rfl (vp_in_nI (n := q) (by omega) (by omega)) ?_
      rw [nI_clamp (n := q) (by omega)]
      refine J_icmpeq 642 C iL_law_637 rfl (fun h637 => ?_) (fun h637 => absurd rfl h637)
      refine J_iinc ((nI q) + 1) [(13, .int ((nI q) + 1)), (12, .ref n1), (11, .int (nI (cnN (fun a => decide (loN p h f t (toN Z) a = 0)) (toN Z)))), (10, .int (nI (smN (fun a => caN p h f t (toN Z) a) (toN Z)))), (9, .int (nI (smN (fun a => loN p h f t (toN Z) a) (toN Z)))), (7, .long dg9), (6, .int x9), (5, .int (nI tm9)), (4, .int (nI (toN Z))), (3, .ref s), (2, .ref t9), (1, .ref (x 0)), (0, .ref (zms Z 3))] C iL_law_642 rfl rfl (by decide) rfl ?_
      rw [show (nI q) + 1 = nI (q + 1) from nI_add _ _]
      refine J_goto 619 C iL_law_645 rfl ?_
      refine J_lvm [(13, .int (nI (q + 1))), (12, .ref n1), (11, .int (nI (cnN (fun a => decide (loN p h f t (toN Z) a = 0)) (toN Z)))), (10, .int (nI (smN (fun a => caN p h f t (toN Z) a) (toN Z)))), (9, .int (nI (smN (fun a => loN p h f t (toN Z) a) (toN Z)))), (7, .long dg9), (6, .int x9), (5, .int (nI tm9)), (4, .int (nI (toN Z))), (3, .ref s), (2, .ref t9), (1, .ref (x 0)), (0, .ref (zms Z 3))] rfl ?_
      refine J_room (rc2 := 1 * (24 - (q + 1)) + (10 + 1 * (rc + 0))) (rs2 := 6 * (24 - (q + 1)) + (60 + 1 * (rs + 0))) (by omega) (by omega) ?_
      exact ihe (w7) hC7
  · rintro a wv3 ha0 ha hH iha
    refine J_room (rc2 := 4880 + 1 * (4880 * (9 - (a + 1)) + (40 + 1 * (rc + 0)))) (rs2 := 29300 + 1 * (29300 * (9 - (a + 1)) + (300 + 1 * (rs + 0)))) (by omega) (by omega) ?_
    refine J_iload C iL_law_130 rfl ?_
    refine J_iload C iL_law_132 rfl ?_
    refine J_icmpge 616 C iL_law_134 rfl (fun h134 => absurd h134 (nI_ge (a := a) (b := toN Z) (by omega) (by omega))) (fun h134 => ?_)
    refine J_room (rc2 := 4880 + 1 * (4880 * (9 - (a + 1)) + (40 + 1 * (rc + 0)) + 0)) (rs2 := 29300 + 1 * (29300 * (9 - (a + 1)) + (300 + 1 * (rs + 0)) + 0)) (by omega) (by omega) ?_
    refine law_ho C hl hH eq0 ok0 ha (fun w8 hC8 => ?_)
    refine J_iinc ((nI a) + 1) [(13, .int ((nI a) + 1)), (12, .ref n1), (11, .int (nI (cnN (fun a => decide (loN p h f t (toN Z) a = 0)) (a + 1)))), (10, .int (nI (smN (fun a => caN p h f t (toN Z) a) (a + 1)))), (9, .int (nI (smN (fun a => loN p h f t (toN Z) a) (a + 1)))), (7, .long dg9), (6, .int x9), (5, .int (nI tm9)), (4, .int (nI (toN Z))), (3, .ref s), (2, .ref t9), (1, .ref (x 0)), (0, .ref (zms Z 3))] C iL_law_610 rfl rfl (by decide) rfl ?_
    rw [show (nI a) + 1 = nI (a + 1) from nI_add _ _]
    refine J_goto 130 C iL_law_613 rfl ?_
    refine J_lvm [(13, .int (nI (a + 1))), (12, .ref n1), (11, .int (nI (cnN (fun a => decide (loN p h f t (toN Z) a = 0)) (a + 1)))), (10, .int (nI (smN (fun a => caN p h f t (toN Z) a) (a + 1)))), (9, .int (nI (smN (fun a => loN p h f t (toN Z) a) (a + 1)))), (7, .long dg9), (6, .int x9), (5, .int (nI tm9)), (4, .int (nI (toN Z))), (3, .ref s), (2, .ref t9), (1, .ref (x 0)), (0, .ref (zms Z 3))] rfl ?_
    refine J_room (rc2 := 4880 * (9 - (a + 1)) + (40 + 1 * (rc + 0))) (rs2 := 29300 * (9 - (a + 1)) + (300 + 1 * (rs + 0))) (by omega) (by omega) ?_
    exact iha (w8) hC8

