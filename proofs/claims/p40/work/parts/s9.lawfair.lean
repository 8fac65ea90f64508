set_option maxRecDepth 100000 in
set_option maxHeartbeats 4000000 in
theorem law_fair {Z : GZ} {X : CX} {Q : State → Prop} {rc rs : Nat} {x : Nat → Nat} {u tm : Nat} {er : Int32} {pP pH pF pT op f1 f2 l0 tb : Nat → Int32} {hh c0 c1 c2 c3 : Nat → Nat} {s hA lA oA tA eA : Nat} {rw lr p h f t : Nat → Nat} {fo ft fe : Nat → Option Nat} {L : List TC} {dy ca : Int32} {wc : va_W} {t9 tm9 : Nat} {x9 : Int32} {dg9 : Int64} (C : Cx Z X cL_law 29 RL) (hl : (cL X).stackTraces = false) (hC : CI Z x (toN Z) u tm er dy ca pP pH pF pT op f1 f2 l0 hh c0 c1 c2 c3 tb wc) (eq0 : EqS (toN Z) pP pH pF pT p h f t) (ok0 : SnOk (toN Z) p h f t) (hdg : dgCn (toN Z) u dy ca pP pH pF pT = dg9) (next : ∀ oq, oq < toN Z → ∀ w9, CI Z x (toN Z) u tm er dy ca pP pH pF pT op f1 f2 l0 hh c0 c1 c2 c3 tb w9 → Jd Z X room_1 29 Q rc rs 945 [(13, .int (nI oq)), (9, .int (nI (alN p h f t (toN Z)))), (7, .long dg9), (6, .int x9), (5, .int (nI tm9)), (4, .int (nI (toN Z))), (3, .ref s), (2, .ref t9), (1, .ref (x 0)), (0, .ref (zms Z 3))] [] ((((wSim Z s (toN Z) (toM Z) hA lA oA tA eA (fun j => some (rw j)) (fun j => some (lr j)) fo ft fe dy ca ++ wRw Z (toN Z) rw p h f t) ++ wPl Z L) ++ wLr Z (toM Z) lr (toK Z) (toV Z)) ++ w9)) : Jd Z X room_1 29 Q (20 + 1 * (rc + 0)) (120 + 1 * (rs + 0)) 710 [(9, .int (nI (alN p h f t (toN Z)))), (7, .long dg9), (6, .int x9), (5, .int (nI tm9)), (4, .int (nI (toN Z))), (3, .ref s), (2, .ref t9), (1, .ref (x 0)), (0, .ref (zms Z 3))] [] ((((wSim Z s (toN Z) (toM Z) hA lA oA tA eA (fun j => some (rw j)) (fun j => some (lr j)) fo ft fe dy ca ++ wRw Z (toN Z) rw p h f t) ++ wPl Z L) ++ wLr Z (toM Z) lr (toK Z) (toV Z)) ++ wc) := by
  have hto := toN_in Z
  have hal := alN_le p h f t (n := toN Z) (by omega)
  refine J_iload C iL_law_710 rfl ?_
  refine J_iconst 3 C iL_law_712 rfl ?_
  refine J_ishr C iL_law_713 ?_
  refine J_iload C iL_law_714 rfl ?_
  refine J_cSb (As := [.int (x9 >>> (3 &&& 31)), .int (nI (toN Z))]) (st := []) (rc2 := 20 + 1 * (rc + 0)) (rs2 := 120 + 1 * (rs + 0)) (w0 := []) C iL_law_716 lm_L_35 yc_L_below ys_L_below (c_L_below (x := x9 >>> (3 &&& 31)) (N := (toN Z)) (by omega) (by omega)) [] ((((wSim Z s (toN Z) (toM Z) hA lA oA tA eA (fun j => some (rw j)) (fun j => some (lr j)) fo ft fe dy ca ++ wRw Z (toN Z) rw p h f t) ++ wPl Z L) ++ wLr Z (toM Z) lr (toK Z) (toV Z)) ++ wc) (by simp only [List.append_assoc, List.append_nil, List.nil_append]) rfl ⟨Nat.le_of_ble_eq_true rfl, Nat.le_of_ble_eq_true rfl⟩ (Nat.le_of_ble_eq_true rfl) (Nat.zero_add _).symm (Nat.zero_add _).symm ?_
  rintro _ _ ⟨rfl, rfl⟩
  refine J_st (.int (nI (belN (x9 >>> (3 &&& 31)) (toN Z))) :: []) rfl ?_
  refine J_ws ((((wSim Z s (toN Z) (toM Z) hA lA oA tA eA (fun j => some (rw j)) (fun j => some (lr j)) fo ft fe dy ca ++ wRw Z (toN Z) rw p h f t) ++ wPl Z L) ++ wLr Z (toM Z) lr (toK Z) (toV Z)) ++ wc) (by simp only [List.append_assoc, List.append_nil, List.nil_append]) ?_
  generalize hqe : (belN (x9 >>> (3 &&& 31)) (toN Z)) = oq
  have hoq : oq < toN Z := by rw [← hqe]; exact belN_lt (by omega)
  clear hqe
  refine J_st (.int (nI oq) :: []) rfl ?_
  have hq9 := ok0.2 oq hoq
  refine J_istore [(13, .int (nI oq)), (9, .int (nI (alN p h f t (toN Z)))), (7, .long dg9), (6, .int x9), (5, .int (nI tm9)), (4, .int (nI (toN Z))), (3, .ref s), (2, .ref t9), (1, .ref (x 0)), (0, .ref (zms Z 3))] C iL_law_719 (by decide) rfl ?_
  refine J_iconst 1 C iL_law_721 rfl ?_
  refine J_iload C iL_law_722 rfl ?_
  refine J_iconst 5 C iL_law_724 rfl ?_
  refine J_ishr C iL_law_725 ?_
  refine J_bipush 13 C iL_law_726 rfl ?_
  refine J_cSb (As := [.int (x9 >>> (5 &&& 31)), .int 13]) (st := .int 1 :: []) (rc2 := 20 + 1 * (rc + 0)) (rs2 := 120 + 1 * (rs + 0)) (w0 := []) C iL_law_728 lm_L_35 yc_L_below ys_L_below (c_L_below (x := x9 >>> (5 &&& 31)) (N := 13) (by omega) (by omega)) [] ((((wSim Z s (toN Z) (toM Z) hA lA oA tA eA (fun j => some (rw j)) (fun j => some (lr j)) fo ft fe dy ca ++ wRw Z (toN Z) rw p h f t) ++ wPl Z L) ++ wLr Z (toM Z) lr (toK Z) (toV Z)) ++ wc) (by simp only [List.append_assoc, List.append_nil, List.nil_append]) rfl ⟨Nat.le_of_ble_eq_true rfl, Nat.le_of_ble_eq_true rfl⟩ (Nat.le_of_ble_eq_true rfl) (Nat.zero_add _).symm (Nat.zero_add _).symm ?_
  rintro _ _ ⟨rfl, rfl⟩
  refine J_st (.int (nI (belN (x9 >>> (5 &&& 31)) 13)) :: .int 1 :: []) rfl ?_
  refine J_ws ((((wSim Z s (toN Z) (toM Z) hA lA oA tA eA (fun j => some (rw j)) (fun j => some (lr j)) fo ft fe dy ca ++ wRw Z (toN Z) rw p h f t) ++ wPl Z L) ++ wLr Z (toM Z) lr (toK Z) (toV Z)) ++ wc) (by simp only [List.append_assoc, List.append_nil, List.nil_append]) ?_
  refine J_iadd C iL_law_731 ?_
  rw [show (1 : Int32) + (nI (belN (x9 >>> (5 &&& 31)) 13)) = nI (1 + (belN (x9 >>> (5 &&& 31)) 13)) from nI_add _ _]
  have hmq : 1 ≤ (1 + (belN (x9 >>> (5 &&& 31)) 13)) ∧ (1 + (belN (x9 >>> (5 &&& 31)) 13)) ≤ 13 := by have := belN_lt (x := x9 >>> (5 &&& 31)) (n := 13) (by decide); omega
  generalize (1 + (belN (x9 >>> (5 &&& 31)) 13)) = mq at hmq ⊢
  refine J_st (.int (nI mq) :: []) rfl ?_
  refine J_istore [(14, .int (nI mq)), (13, .int (nI oq)), (9, .int (nI (alN p h f t (toN Z)))), (7, .long dg9), (6, .int x9), (5, .int (nI tm9)), (4, .int (nI (toN Z))), (3, .ref s), (2, .ref t9), (1, .ref (x 0)), (0, .ref (zms Z 3))] C iL_law_732 (by decide) rfl ?_
  refine J_aload_n C iL_law_734 rfl rfl ?_
  refine J_iload C iL_law_735 rfl ?_
  refine J_iload C iL_law_737 rfl ?_
  obtain ⟨fs1, hf1⟩ := CI.head hC
  refine J_room (rc2 := 2 + (18 + 1 * (rc + 0))) (rs2 := 12 + (108 + 1 * (rs + 0))) (by omega) (by omega) ?_
  refine J_cVb (As := [.int (nI oq), .int (nI mq)]) (st := []) (rc2 := 18 + 1 * (rc + 0)) (rs2 := 108 + 1 * (rs + 0)) (w0 := (wc)) (q0 := 0) C iL_law_739 lm_L_249 yc_X8_fairCurfew yv_X8_fairCurfew (k_fairCurfew hl (a := oq) (n := mq) hC eq0 ok0 hoq (by omega) (by omega)) rfl rfl hf1 (((wSim Z s (toN Z) (toM Z) hA lA oA tA eA (fun j => some (rw j)) (fun j => some (lr j)) fo ft fe dy ca ++ wRw Z (toN Z) rw p h f t) ++ wPl Z L) ++ wLr Z (toM Z) lr (toK Z) (toV Z)) [] (by simp only [List.append_assoc, List.append_nil, List.nil_append]) rfl ⟨Nat.le_of_ble_eq_true rfl, Nat.le_of_ble_eq_true rfl⟩ (Nat.le_of_ble_eq_true rfl) rfl rfl ?_
  rintro _ w1 ⟨rfl, hC1⟩
  refine J_st (.int ((frX (fcV (toN Z) pP pH pF pT mq oq) (14 - mq)).1) :: []) rfl ?_
  refine J_ws ((((wSim Z s (toN Z) (toM Z) hA lA oA tA eA (fun j => some (rw j)) (fun j => some (lr j)) fo ft fe dy ca ++ wRw Z (toN Z) rw p h f t) ++ wPl Z L) ++ wLr Z (toM Z) lr (toK Z) (toV Z)) ++ w1) (by simp only [List.append_assoc, List.append_nil, List.nil_append]) ?_
  obtain ⟨m0, hm0, hfr, hmin⟩ := fr_ok (g := fvN p h f t (toN Z) mq oq) (c := 14 - mq) (fun i hi => fv_b eq0 ok0 hmq.1 hi) (14 - mq) (Nat.le_refl _) (by omega)
  rw [hfr]
  refine J_st (.int (nI (6 + m0)) :: []) rfl ?_
  refine J_istore [(15, .int (nI (6 + m0))), (14, .int (nI mq)), (13, .int (nI oq)), (9, .int (nI (alN p h f t (toN Z)))), (7, .long dg9), (6, .int x9), (5, .int (nI tm9)), (4, .int (nI (toN Z))), (3, .ref s), (2, .ref t9), (1, .ref (x 0)), (0, .ref (zms Z 3))] C iL_law_742 (by decide) rfl ?_
  refine J_aload_n C iL_law_744 rfl rfl ?_
  refine J_iload C iL_law_745 rfl ?_
  obtain ⟨fs2, hf2⟩ := CI.head hC1
  refine J_room (rc2 := 1 + (17 + 1 * (rc + 0))) (rs2 := 6 + (102 + 1 * (rs + 0))) (by omega) (by omega) ?_
  refine J_cVb (As := [.int (nI mq)]) (st := []) (rc2 := 17 + 1 * (rc + 0)) (rs2 := 102 + 1 * (rs + 0)) (w0 := (w1)) (q0 := 0) C iL_law_747 lm_L_252 yc_X8_fairestWall yv_X8_fairestWall (k_fairestWall hl (n := mq) hC1 eq0 ok0 (by omega) (by omega)) rfl rfl hf2 (((wSim Z s (toN Z) (toM Z) hA lA oA tA eA (fun j => some (rw j)) (fun j => some (lr j)) fo ft fe dy ca ++ wRw Z (toN Z) rw p h f t) ++ wPl Z L) ++ wLr Z (toM Z) lr (toK Z) (toV Z)) [] (by simp only [List.append_assoc, List.append_nil, List.nil_append]) rfl ⟨Nat.le_of_ble_eq_true rfl, Nat.le_of_ble_eq_true rfl⟩ (Nat.le_of_ble_eq_true rfl) rfl rfl ?_
  rintro _ w2 ⟨rfl, hC2⟩
  refine J_st (.int ((owX (fcV (toN Z) pP pH pF pT mq) (14 - mq) (-1, laG (toN Z) pP pH pF pT) (toN Z)).1) :: []) rfl ?_
  refine J_ws ((((wSim Z s (toN Z) (toM Z) hA lA oA tA eA (fun j => some (rw j)) (fun j => some (lr j)) fo ft fe dy ca ++ wRw Z (toN Z) rw p h f t) ++ wPl Z L) ++ wLr Z (toM Z) lr (toK Z) (toV Z)) ++ w2) (by simp only [List.append_assoc, List.append_nil, List.nil_append]) ?_
  obtain ⟨r9, hr9, hbs⟩ : ∃ r, owX (fcV (toN Z) pP pH pF pT mq) (14 - mq) (-1, laG (toN Z) pP pH pF pT) (toN Z) = r ∧ BsW (alN p h f t (toN Z)) (fun a => fvN p h f t (toN Z) mq a) (fun a i => a < toN Z ∧ i < 14 - mq) r := ⟨_, rfl, by rw [al_b eq0 ok0]; exact ow_ok hal (fun a ha i hi => fv_b eq0 ok0 hmq.1 hi) (toN Z) (Nat.le_refl _)⟩
  rw [hr9]
  refine J_st (.int r9.1 :: []) rfl ?_
  refine J_istore [(16, .int r9.1), (15, .int (nI (6 + m0))), (14, .int (nI mq)), (13, .int (nI oq)), (9, .int (nI (alN p h f t (toN Z)))), (7, .long dg9), (6, .int x9), (5, .int (nI tm9)), (4, .int (nI (toN Z))), (3, .ref s), (2, .ref t9), (1, .ref (x 0)), (0, .ref (zms Z 3))] C iL_law_750 (by decide) rfl ?_
  refine J_aload_n C iL_law_752 rfl rfl ?_
  obtain ⟨fs3, hf3⟩ := CI.head hC2
  refine J_cVb (As := []) (st := []) (rc2 := 17 + 1 * (rc + 0)) (rs2 := 102 + 1 * (rs + 0)) (w0 := (w2)) (q0 := 0) C iL_law_753 lm_L_177 yc_X8_digest yv_X8_digest (k_digest hC2 eq0 ok0) rfl rfl hf3 (((wSim Z s (toN Z) (toM Z) hA lA oA tA eA (fun j => some (rw j)) (fun j => some (lr j)) fo ft fe dy ca ++ wRw Z (toN Z) rw p h f t) ++ wPl Z L) ++ wLr Z (toM Z) lr (toK Z) (toV Z)) [] (by simp only [List.append_assoc, List.append_nil, List.nil_append]) rfl ⟨Nat.le_of_ble_eq_true rfl, Nat.le_of_ble_eq_true rfl⟩ (Nat.le_of_ble_eq_true rfl) (Nat.zero_add _).symm (Nat.zero_add _).symm ?_
  rintro _ w3 ⟨rfl, hC3⟩
  refine J_st (.long (dgCn (toN Z) u dy ca pP pH pF pT) :: []) rfl ?_
  refine J_ws ((((wSim Z s (toN Z) (toM Z) hA lA oA tA eA (fun j => some (rw j)) (fun j => some (lr j)) fo ft fe dy ca ++ wRw Z (toN Z) rw p h f t) ++ wPl Z L) ++ wLr Z (toM Z) lr (toK Z) (toV Z)) ++ w3) (by simp only [List.append_assoc, List.append_nil, List.nil_append]) ?_
  refine J_lload C iL_law_756 rfl ?_
  refine J_lcmp C iL_law_758 ?_
  refine J_ifneL 779 C iL_law_759 rfl (fun h759 => absurd hdg h759) (fun h759 => ?_)
  refine J_iload C iL_law_762 rfl ?_
  refine J_bipush 6 C iL_law_764 rfl ?_
  refine J_icmplt 779 C iL_law_766 rfl (fun h766 => absurd h766 (nI_nlt (a := 6 + m0) (b := 6) (by omega) (by omega))) (fun h766 => ?_)
  refine J_iload C iL_law_769 rfl ?_
  refine J_iload C iL_law_771 rfl ?_
  refine J_iadd C iL_law_773 ?_
  rw [show (nI (6 + m0)) + (nI mq) = nI ((6 + m0) + mq) from nI_add _ _]
  refine J_bipush 19 C iL_law_774 rfl ?_
  refine J_icmple 781 C iL_law_776 rfl (fun h776 => ?_) (fun h776 => absurd (nI_le (a := 6 + m0 + mq) (b := 19) (by omega) (by decide)) h776)
  refine J_aload_n C iL_law_781 rfl rfl ?_
  refine J_get (.ref hA) 0 C iL_law_782 gf_L_73 rfl rfl ?_
  refine J_iload C iL_law_785 rfl ?_
  refine J_aaldA 1 C iL_law_787 rfl (vp_in_nI (n := oq) (by omega) (by omega)) ?_
  rw [nI_clamp (n := oq) (by omega)]
  refine J_st (.ref (rw oq) :: []) rfl ?_
  refine J_astore [(17, .ref (rw oq)), (16, .int r9.1), (15, .int (nI (6 + m0))), (14, .int (nI mq)), (13, .int (nI oq)), (9, .int (nI (alN p h f t (toN Z)))), (7, .long dg9), (6, .int x9), (5, .int (nI tm9)), (4, .int (nI (toN Z))), (3, .ref s), (2, .ref t9), (1, .ref (x 0)), (0, .ref (zms Z 3))] C iL_law_788 (by decide) rfl ?_
  refine J_bipush 6 C iL_law_790 rfl ?_
  refine J_iload C iL_law_792 rfl ?_
  refine J_bipush 7 C iL_law_794 rfl ?_
  refine J_ishr C iL_law_796 ?_
  refine J_bipush 14 C iL_law_797 rfl ?_
  refine J_iload C iL_law_799 rfl ?_
  refine J_isub C iL_law_801 ?_
  rw [show 14 - (nI mq) = nI (14 - mq) from pk_sub (a := 14) (b := mq) (by omega)]
  refine J_cSb (As := [.int (x9 >>> (7 &&& 31)), .int (nI (14 - mq))]) (st := .int 6 :: []) (rc2 := 17 + 1 * (rc + 0)) (rs2 := 102 + 1 * (rs + 0)) (w0 := []) C iL_law_802 lm_L_35 yc_L_below ys_L_below (c_L_below (x := x9 >>> (7 &&& 31)) (N := (14 - mq)) (by omega) (by omega)) [] ((((wSim Z s (toN Z) (toM Z) hA lA oA tA eA (fun j => some (rw j)) (fun j => some (lr j)) fo ft fe dy ca ++ wRw Z (toN Z) rw p h f t) ++ wPl Z L) ++ wLr Z (toM Z) lr (toK Z) (toV Z)) ++ w3) (by simp only [List.append_assoc, List.append_nil, List.nil_append]) rfl ⟨Nat.le_of_ble_eq_true rfl, Nat.le_of_ble_eq_true rfl⟩ (Nat.le_of_ble_eq_true rfl) (Nat.zero_add _).symm (Nat.zero_add _).symm ?_
  rintro _ _ ⟨rfl, rfl⟩
  refine J_st (.int (nI (belN (x9 >>> (7 &&& 31)) (14 - mq))) :: .int 6 :: []) rfl ?_
  refine J_ws ((((wSim Z s (toN Z) (toM Z) hA lA oA tA eA (fun j => some (rw j)) (fun j => some (lr j)) fo ft fe dy ca ++ wRw Z (toN Z) rw p h f t) ++ wPl Z L) ++ wLr Z (toM Z) lr (toK Z) (toV Z)) ++ w3) (by simp only [List.append_assoc, List.append_nil, List.nil_append]) ?_
  refine J_iadd C iL_law_805 ?_
  rw [show (6 : Int32) + (nI (belN (x9 >>> (7 &&& 31)) (14 - mq))) = nI (6 + (belN (x9 >>> (7 &&& 31)) (14 - mq))) from nI_add _ _]
  have hm1 : (belN (x9 >>> (7 &&& 31)) (14 - mq)) < 14 - mq := belN_lt (by omega)
  generalize (belN (x9 >>> (7 &&& 31)) (14 - mq)) = m1 at hm1 ⊢
  refine J_st (.int (nI (6 + m1)) :: []) rfl ?_
  obtain ⟨hmn1, hmn2⟩ := hmin m1 hm1
  have hfv0 := (fv_b (a := oq) eq0 ok0 hmq.1 hm0).2
  have hfv1 := (fv_b (a := oq) eq0 ok0 hmq.1 hm1).2
  refine J_istore [(18, .int (nI (6 + m1))), (17, .ref (rw oq)), (16, .int r9.1), (15, .int (nI (6 + m0))), (14, .int (nI mq)), (13, .int (nI oq)), (9, .int (nI (alN p h f t (toN Z)))), (7, .long dg9), (6, .int x9), (5, .int (nI tm9)), (4, .int (nI (toN Z))), (3, .ref s), (2, .ref t9), (1, .ref (x 0)), (0, .ref (zms Z 3))] C iL_law_806 (by decide) rfl ?_
  refine J_aload_n C iL_law_808 rfl rfl ?_
  refine J_iload C iL_law_809 rfl ?_
  refine J_iload C iL_law_811 rfl ?_
  refine J_iload C iL_law_813 rfl ?_
  refine J_iload C iL_law_815 rfl ?_
  refine J_iadd C iL_law_817 ?_
  rw [show (nI (6 + m0)) + (nI mq) = nI ((6 + m0) + mq) from nI_add _ _]
  refine J_iconst 1 C iL_law_818 rfl ?_
  refine J_isub C iL_law_819 ?_
  rw [show (nI ((6 + m0) + mq)) - 1 = nI (6 + m0 + mq - 1) from pk_sub (a := 6 + m0 + mq) (b := 1) (by omega)]
  obtain ⟨fs4, hf4⟩ := CI.head hC3
  refine J_room (rc2 := 2 + (15 + 1 * (rc + 0))) (rs2 := 12 + (90 + 1 * (rs + 0))) (by omega) (by omega) ?_
  refine J_cVb (As := [.int (nI oq), .int (nI (6 + m0)), .int (nI (6 + m0 + mq - 1))]) (st := []) (rc2 := 15 + 1 * (rc + 0)) (rs2 := 90 + 1 * (rs + 0)) (w0 := (w3)) (q0 := 0) C iL_law_820 lm_L_137 yc_X8_setCurfew yv_X8_setCurfew (k_setCurfew hl hC3 eq0 ok0 (a := oq) (y := (6 + m0)) (z := (6 + m0 + mq - 1)) hoq (by omega) (by omega) (by omega)) rfl rfl hf4 (((wSim Z s (toN Z) (toM Z) hA lA oA tA eA (fun j => some (rw j)) (fun j => some (lr j)) fo ft fe dy ca ++ wRw Z (toN Z) rw p h f t) ++ wPl Z L) ++ wLr Z (toM Z) lr (toK Z) (toV Z)) [] (by simp only [List.append_assoc, List.append_nil, List.nil_append]) rfl ⟨Nat.le_of_ble_eq_true rfl, Nat.le_of_ble_eq_true rfl⟩ (Nat.le_of_ble_eq_true rfl) rfl rfl ?_
  rintro _ w4 ⟨rfl, hC4⟩
  refine J_st (.int (nI (alN p h (upN f oq (6 + m0)) (upN t oq (6 + m0 + mq - 1)) (toN Z))) :: []) rfl ?_
  refine J_ws ((((wSim Z s (toN Z) (toM Z) hA lA oA tA eA (fun j => some (rw j)) (fun j => some (lr j)) fo ft fe dy ca ++ wRw Z (toN Z) rw p h f t) ++ wPl Z L) ++ wLr Z (toM Z) lr (toK Z) (toV Z)) ++ w4) (by simp only [List.append_assoc, List.append_nil, List.nil_append]) ?_
  have eq4 := EqS.upC (a := oq) (x := (6 + m0)) (y := (6 + m0 + mq - 1)) eq0
  rw [cu_nI (show ¬ (6 + m0) = 0 by omega), cu_nI (show ¬ (6 + m0 + mq - 1) = 0 by omega)] at eq4
  have ok4 := SnOk.upC (a := oq) (x := (6 + m0)) (y := (6 + m0 + mq - 1)) ok0 (Or.inr ⟨by omega, by omega, by omega⟩)
  refine J_st (.int (nI (fvN p h f t (toN Z) mq oq m0)) :: []) rfl ?_
  refine J_istore [(19, .int (nI (fvN p h f t (toN Z) mq oq m0))), (18, .int (nI (6 + m1))), (17, .ref (rw oq)), (16, .int r9.1), (15, .int (nI (6 + m0))), (14, .int (nI mq)), (13, .int (nI oq)), (9, .int (nI (alN p h f t (toN Z)))), (7, .long dg9), (6, .int x9), (5, .int (nI tm9)), (4, .int (nI (toN Z))), (3, .ref s), (2, .ref t9), (1, .ref (x 0)), (0, .ref (zms Z 3))] C iL_law_823 (by decide) rfl ?_
  refine J_aload_n C iL_law_825 rfl rfl ?_
  refine J_iload C iL_law_826 rfl ?_
  refine J_iload C iL_law_828 rfl ?_
  refine J_iload C iL_law_830 rfl ?_
  refine J_iload C iL_law_832 rfl ?_
  refine J_iadd C iL_law_834 ?_
  rw [show (nI (6 + m1)) + (nI mq) = nI ((6 + m1) + mq) from nI_add _ _]
  refine J_iconst 1 C iL_law_835 rfl ?_
  refine J_isub C iL_law_836 ?_
  rw [show (nI ((6 + m1) + mq)) - 1 = nI (6 + m1 + mq - 1) from pk_sub (a := 6 + m1 + mq) (b := 1) (by omega)]
  obtain ⟨fs5, hf5⟩ := CI.head hC4
  refine J_room (rc2 := 2 + (13 + 1 * (rc + 0))) (rs2 := 12 + (78 + 1 * (rs + 0))) (by omega) (by omega) ?_
  refine J_cVb (As := [.int (nI oq), .int (nI (6 + m1)), .int (nI (6 + m1 + mq - 1))]) (st := []) (rc2 := 13 + 1 * (rc + 0)) (rs2 := 78 + 1 * (rs + 0)) (w0 := (w4)) (q0 := 0) C iL_law_837 lm_L_137 yc_X8_setCurfew yv_X8_setCurfew (k_setCurfew hl hC4 eq4 ok4 (a := oq) (y := (6 + m1)) (z := (6 + m1 + mq - 1)) hoq (by omega) (by omega) (by omega)) rfl rfl hf5 (((wSim Z s (toN Z) (toM Z) hA lA oA tA eA (fun j => some (rw j)) (fun j => some (lr j)) fo ft fe dy ca ++ wRw Z (toN Z) rw p h f t) ++ wPl Z L) ++ wLr Z (toM Z) lr (toK Z) (toV Z)) [] (by simp only [List.append_assoc, List.append_nil, List.nil_append]) rfl ⟨Nat.le_of_ble_eq_true rfl, Nat.le_of_ble_eq_true rfl⟩ (Nat.le_of_ble_eq_true rfl) rfl rfl ?_
  rintro _ w5 ⟨rfl, hC5⟩
  refine J_st (.int (nI (alN p h (upN (upN f oq (6 + m0)) oq (6 + m1)) (upN (upN t oq (6 + m0 + mq - 1)) oq (6 + m1 + mq - 1)) (toN Z))) :: []) rfl ?_
  refine J_ws ((((wSim Z s (toN Z) (toM Z) hA lA oA tA eA (fun j => some (rw j)) (fun j => some (lr j)) fo ft fe dy ca ++ wRw Z (toN Z) rw p h f t) ++ wPl Z L) ++ wLr Z (toM Z) lr (toK Z) (toV Z)) ++ w5) (by simp only [List.append_assoc, List.append_nil, List.nil_append]) ?_
  have eq5 := EqS.upC (a := oq) (x := (6 + m1)) (y := (6 + m1 + mq - 1)) eq4
  rw [cu_nI (show ¬ (6 + m1) = 0 by omega), cu_nI (show ¬ (6 + m1 + mq - 1) = 0 by omega)] at eq5
  have ok5 := SnOk.upC (a := oq) (x := (6 + m1)) (y := (6 + m1 + mq - 1)) ok4 (Or.inr ⟨by omega, by omega, by omega⟩)
  refine J_st (.int (nI (fvN p h f t (toN Z) mq oq m1)) :: []) (congrArg (fun z => (.int z :: [] : List Value)) (show nI (alN p h (upN (upN f oq (6 + m0)) oq (6 + m1)) (upN (upN t oq (6 + m0 + mq - 1)) oq (6 + m1 + mq - 1)) (toN Z)) = nI (fvN p h f t (toN Z) mq oq m1) by rw [upN_two, upN_two]; rfl)) ?_
  refine J_istore [(20, .int (nI (fvN p h f t (toN Z) mq oq m1))), (19, .int (nI (fvN p h f t (toN Z) mq oq m0))), (18, .int (nI (6 + m1))), (17, .ref (rw oq)), (16, .int r9.1), (15, .int (nI (6 + m0))), (14, .int (nI mq)), (13, .int (nI oq)), (9, .int (nI (alN p h f t (toN Z)))), (7, .long dg9), (6, .int x9), (5, .int (nI tm9)), (4, .int (nI (toN Z))), (3, .ref s), (2, .ref t9), (1, .ref (x 0)), (0, .ref (zms Z 3))] C iL_law_840 (by decide) rfl ?_
  refine J_iload C iL_law_842 rfl ?_
  refine J_iload C iL_law_844 rfl ?_
  refine J_icmplt 889 C iL_law_846 rfl (fun h846 => absurd h846 (nI_nlt (a := fvN p h f t (toN Z) mq oq m1) (b := fvN p h f t (toN Z) mq oq m0) hmn1 (by omega))) (fun h846 => ?_)
  refine J_iload C iL_law_849 rfl ?_
  refine J_iload C iL_law_851 rfl ?_
  by_cases hsame : fvN p h f t (toN Z) mq oq m1 = fvN p h f t (toN Z) mq oq m0
  · refine J_icmpne 863 C iL_law_853 rfl (fun h853 => absurd (congrArg nI hsame) h853) (fun h853 => ?_)
    refine J_iload C iL_law_856 rfl ?_
    refine J_iload C iL_law_858 rfl ?_
    refine J_icmplt 889 C iL_law_860 rfl (fun h860 => absurd h860 (nI_nlt (a := 6 + m1) (b := 6 + m0) (by have := hmn2 hsame; omega) (by omega))) (fun h860 => ?_)
    rcases hbs with ⟨rfl, hall⟩ | ⟨ww, mm, ⟨hww, hmm⟩, rfl, hlt, hall⟩
    · refine J_lvm [(20, .int (nI (fvN p h f t (toN Z) mq oq m1))), (19, .int (nI (fvN p h f t (toN Z) mq oq m0))), (18, .int (nI (6 + m1))), (17, .ref (rw oq)), (16, .int (-1)), (15, .int (nI (6 + m0))), (14, .int (nI mq)), (13, .int (nI oq)), (9, .int (nI (alN p h f t (toN Z)))), (7, .long dg9), (6, .int x9), (5, .int (nI tm9)), (4, .int (nI (toN Z))), (3, .ref s), (2, .ref t9), (1, .ref (x 0)), (0, .ref (zms Z 3))] rfl ?_
      refine J_iload C iL_law_863 rfl ?_
      refine J_ifge 875 C iL_law_865 rfl (fun h865 => absurd h865 (by decide)) (fun h865 => ?_)
      refine J_iload C iL_law_868 rfl ?_
      refine J_iload C iL_law_870 rfl ?_
      refine J_icmplt 889 C iL_law_872 rfl (fun h872 => absurd h872 (nI_nlt (a := fvN p h f t (toN Z) mq oq m0) (b := alN p h f t (toN Z)) (hall oq m0 ⟨hoq, hm0⟩) (by omega))) (fun h872 => ?_)
      refine J_iload C iL_law_875 rfl ?_
      refine J_iload C iL_law_877 rfl ?_
      refine J_icmpne 891 C iL_law_879 rfl (fun h879 => ?_) (fun h879 => absurd h879 (fun e => nI_pos (n := oq) (by omega) (show nI oq < 0 from e ▸ (by decide : (-1 : Int32) < 0))))
      refine J_aload C iL_law_891 rfl ?_
      refine J_iconst 2 C iL_law_893 rfl ?_
      refine J_iald (n := 4) (f := rowF p h f t oq) (((wSim Z s (toN Z) (toM Z) hA lA oA tA eA (fun j => some (rw j)) (fun j => some (lr j)) fo ft fe dy ca)).length + oq) C iL_law_894 (mid_at (A := (wSim Z s (toN Z) (toM Z) hA lA oA tA eA (fun j => some (rw j)) (fun j => some (lr j)) fo ft fe dy ca)) (M := wRw Z (toN Z) rw p h f t) (B := ((wPl Z L ++ wLr Z (toM Z) lr (toK Z) (toV Z)) ++ w5)) (by simp only [List.append_assoc, List.append_nil, List.nil_append]) (wRw_at (by omega))) (vp_in_nI (n := 2) (by decide) (by decide)) ?_
      refine J_st (.int (cuI (f oq)) :: []) rfl ?_
      by_cases hf0 : f oq = 0
      · refine J_ifge 912 C iL_law_895 rfl (fun h895 => absurd h895 (Int32.not_le.mpr ((cu_neg (by omega)).mpr hf0))) (fun h895 => ?_)
        refine J_aload_n C iL_law_898 rfl rfl ?_
        refine J_iload C iL_law_899 rfl ?_
        obtain ⟨fs6, hf6⟩ := CI.head hC5
        refine J_room (rc2 := 2 + (11 + 1 * (rc + 0))) (rs2 := 12 + (66 + 1 * (rs + 0))) (by omega) (by omega) ?_
        refine J_cVb (As := [.int (nI oq)]) (st := []) (rc2 := 11 + 1 * (rc + 0)) (rs2 := 66 + 1 * (rs + 0)) (w0 := (w5)) (q0 := 0) C iL_law_901 lm_L_144 yc_X8_endCurfew yv_X8_endCurfew (k_endCurfew hl hC5 eq5 ok5 (a := oq) hoq (by simp only [upN, if_true]; omega)) rfl rfl hf6 (((wSim Z s (toN Z) (toM Z) hA lA oA tA eA (fun j => some (rw j)) (fun j => some (lr j)) fo ft fe dy ca ++ wRw Z (toN Z) rw p h f t) ++ wPl Z L) ++ wLr Z (toM Z) lr (toK Z) (toV Z)) [] (by simp only [List.append_assoc, List.append_nil, List.nil_append]) rfl ⟨Nat.le_of_ble_eq_true rfl, Nat.le_of_ble_eq_true rfl⟩ (Nat.le_of_ble_eq_true rfl) rfl rfl ?_
        rintro _ w6 ⟨rfl, hC6⟩
        refine J_st (.int (nI (alN p h (upN (upN (upN f oq (6 + m0)) oq (6 + m1)) oq 0) (upN (upN (upN t oq (6 + m0 + mq - 1)) oq (6 + m1 + mq - 1)) oq 0) (toN Z))) :: []) rfl ?_
        refine J_ws ((((wSim Z s (toN Z) (toM Z) hA lA oA tA eA (fun j => some (rw j)) (fun j => some (lr j)) fo ft fe dy ca ++ wRw Z (toN Z) rw p h f t) ++ wPl Z L) ++ wLr Z (toM Z) lr (toK Z) (toV Z)) ++ w6) (by simp only [List.append_assoc, List.append_nil, List.nil_append]) ?_
        refine J_iload C iL_law_904 rfl ?_
        refine J_icmpeq 933 C iL_law_906 rfl (fun h906 => ?_) (fun h906 => absurd (congrArg nI (by rw [upN_bk2 hf0, upN_bk2 (show t oq = 0 by omega)])) h906)
        have hpF : pF oq = -1 := by rw [(eq0 oq hoq).2.2.1]; exact (by rw [hf0]; rfl)
        have hpT : pT oq = -1 := by rw [(eq0 oq hoq).2.2.2]; exact (by rw [show t oq = 0 by omega]; rfl)
        have hC7 : CI Z x (toN Z) u tm er dy ca pP pH pF pT op f1 f2 l0 hh c0 c1 c2 c3 tb w6 := by have z9 := hC6; rw [upd_back hpF, upd_back hpT] at z9; exact z9
        refine J_aload_n C iL_law_933 rfl rfl ?_
        obtain ⟨fs8, hf8⟩ := CI.head hC7
        refine J_cVb (As := []) (st := []) (rc2 := 11 + 1 * (rc + 0)) (rs2 := 66 + 1 * (rs + 0)) (w0 := (w6)) (q0 := 0) C iL_law_934 lm_L_177 yc_X8_digest yv_X8_digest (k_digest hC7 eq0 ok0) rfl rfl hf8 (((wSim Z s (toN Z) (toM Z) hA lA oA tA eA (fun j => some (rw j)) (fun j => some (lr j)) fo ft fe dy ca ++ wRw Z (toN Z) rw p h f t) ++ wPl Z L) ++ wLr Z (toM Z) lr (toK Z) (toV Z)) [] (by simp only [List.append_assoc, List.append_nil, List.nil_append]) rfl ⟨Nat.le_of_ble_eq_true rfl, Nat.le_of_ble_eq_true rfl⟩ (Nat.le_of_ble_eq_true rfl) (Nat.zero_add _).symm (Nat.zero_add _).symm ?_
        rintro _ w8 ⟨rfl, hC8⟩
        refine J_st (.long (dgCn (toN Z) u dy ca pP pH pF pT) :: []) rfl ?_
        refine J_ws ((((wSim Z s (toN Z) (toM Z) hA lA oA tA eA (fun j => some (rw j)) (fun j => some (lr j)) fo ft fe dy ca ++ wRw Z (toN Z) rw p h f t) ++ wPl Z L) ++ wLr Z (toM Z) lr (toK Z) (toV Z)) ++ w8) (by simp only [List.append_assoc, List.append_nil, List.nil_append]) ?_
        refine J_lload C iL_law_937 rfl ?_
        refine J_lcmp C iL_law_939 ?_
        refine J_ifeqL 945 C iL_law_940 rfl (fun h940 => ?_) (fun h940 => absurd hdg h940)
        refine J_lvm [(13, .int (nI oq)), (9, .int (nI (alN p h f t (toN Z)))), (7, .long dg9), (6, .int x9), (5, .int (nI tm9)), (4, .int (nI (toN Z))), (3, .ref s), (2, .ref t9), (1, .ref (x 0)), (0, .ref (zms Z 3))] rfl ?_
        refine J_room (rc2 := rc) (rs2 := rs) (by omega) (by omega) ?_
        exact next oq hoq w8 hC8
      · refine J_ifge 912 C iL_law_895 rfl (fun h895 => ?_) (fun h895 => absurd (Int32.not_lt.mp (fun q => hf0 ((cu_neg (by omega)).mp q))) h895)
        refine J_aload_n C iL_law_912 rfl rfl ?_
        refine J_iload C iL_law_913 rfl ?_
        refine J_aload C iL_law_915 rfl ?_
        refine J_iconst 2 C iL_law_917 rfl ?_
        refine J_iald (n := 4) (f := rowF p h f t oq) (((wSim Z s (toN Z) (toM Z) hA lA oA tA eA (fun j => some (rw j)) (fun j => some (lr j)) fo ft fe dy ca)).length + oq) C iL_law_918 (mid_at (A := (wSim Z s (toN Z) (toM Z) hA lA oA tA eA (fun j => some (rw j)) (fun j => some (lr j)) fo ft fe dy ca)) (M := wRw Z (toN Z) rw p h f t) (B := ((wPl Z L ++ wLr Z (toM Z) lr (toK Z) (toV Z)) ++ w5)) (by simp only [List.append_assoc, List.append_nil, List.nil_append]) (wRw_at (by omega))) (vp_in_nI (n := 2) (by decide) (by decide)) ?_
        refine J_st (.int (cuI (f oq)) :: .int (nI oq) :: .ref (x 0) :: []) rfl ?_
        refine J_aload C iL_law_919 rfl ?_
        refine J_iconst 3 C iL_law_921 rfl ?_
        refine J_iald (n := 4) (f := rowF p h f t oq) (((wSim Z s (toN Z) (toM Z) hA lA oA tA eA (fun j => some (rw j)) (fun j => some (lr j)) fo ft fe dy ca)).length + oq) C iL_law_922 (mid_at (A := (wSim Z s (toN Z) (toM Z) hA lA oA tA eA (fun j => some (rw j)) (fun j => some (lr j)) fo ft fe dy ca)) (M := wRw Z (toN Z) rw p h f t) (B := ((wPl Z L ++ wLr Z (toM Z) lr (toK Z) (toV Z)) ++ w5)) (by simp only [List.append_assoc, List.append_nil, List.nil_append]) (wRw_at (by omega))) (vp_in_nI (n := 3) (by decide) (by decide)) ?_
        refine J_st (.int (cuI (t oq)) :: .int (cuI (f oq)) :: .int (nI oq) :: .ref (x 0) :: []) rfl ?_
        refine J_st (.int (nI (t oq)) :: .int (nI (f oq)) :: .int (nI oq) :: .ref (x 0) :: []) (by rw [cu_nI hf0, cu_nI (show ¬ t oq = 0 by omega)]) ?_
        obtain ⟨fs9, hf9⟩ := CI.head hC5
        refine J_room (rc2 := 2 + (11 + 1 * (rc + 0))) (rs2 := 12 + (66 + 1 * (rs + 0))) (by omega) (by omega) ?_
        refine J_cVb (As := [.int (nI oq), .int (nI (f oq)), .int (nI (t oq))]) (st := []) (rc2 := 11 + 1 * (rc + 0)) (rs2 := 66 + 1 * (rs + 0)) (w0 := (w5)) (q0 := 0) C iL_law_923 lm_L_137 yc_X8_setCurfew yv_X8_setCurfew (k_setCurfew hl hC5 eq5 ok5 (a := oq) (y := (f oq)) (z := (t oq)) hoq (by omega) (by omega) (by omega)) rfl rfl hf9 (((wSim Z s (toN Z) (toM Z) hA lA oA tA eA (fun j => some (rw j)) (fun j => some (lr j)) fo ft fe dy ca ++ wRw Z (toN Z) rw p h f t) ++ wPl Z L) ++ wLr Z (toM Z) lr (toK Z) (toV Z)) [] (by simp only [List.append_assoc, List.append_nil, List.nil_append]) rfl ⟨Nat.le_of_ble_eq_true rfl, Nat.le_of_ble_eq_true rfl⟩ (Nat.le_of_ble_eq_true rfl) rfl rfl ?_
        rintro _ w9 ⟨rfl, hC9⟩
        refine J_st (.int (nI (alN p h (upN (upN (upN f oq (6 + m0)) oq (6 + m1)) oq (f oq)) (upN (upN (upN t oq (6 + m0 + mq - 1)) oq (6 + m1 + mq - 1)) oq (t oq)) (toN Z))) :: []) rfl ?_
        refine J_ws ((((wSim Z s (toN Z) (toM Z) hA lA oA tA eA (fun j => some (rw j)) (fun j => some (lr j)) fo ft fe dy ca ++ wRw Z (toN Z) rw p h f t) ++ wPl Z L) ++ wLr Z (toM Z) lr (toK Z) (toV Z)) ++ w9) (by simp only [List.append_assoc, List.append_nil, List.nil_append]) ?_
        have eq9 := EqS.upC (a := oq) (x := (f oq)) (y := (t oq)) eq5
        rw [cu_nI (show ¬ (f oq) = 0 by omega), cu_nI (show ¬ (t oq) = 0 by omega)] at eq9
        have ok9 := SnOk.upC (a := oq) (x := (f oq)) (y := (t oq)) ok5 (Or.inr ⟨by omega, by omega, by omega⟩)
        refine J_iload C iL_law_926 rfl ?_
        refine J_icmpeq 933 C iL_law_928 rfl (fun h928 => ?_) (fun h928 => absurd (congrArg nI (by rw [upN_bk2 rfl, upN_bk2 rfl])) h928)
        have hpF : pF oq = nI (f oq) := by rw [(eq0 oq hoq).2.2.1]; exact cu_nI hf0
        have hpT : pT oq = nI (t oq) := by rw [(eq0 oq hoq).2.2.2]; exact cu_nI (by omega)
        have hC10 : CI Z x (toN Z) u tm er dy ca pP pH pF pT op f1 f2 l0 hh c0 c1 c2 c3 tb w9 := by have z9 := hC9; rw [upd_back hpF, upd_back hpT] at z9; exact z9
        refine J_aload_n C iL_law_933 rfl rfl ?_
        obtain ⟨fs11, hf11⟩ := CI.head hC10
        refine J_cVb (As := []) (st := []) (rc2 := 11 + 1 * (rc + 0)) (rs2 := 66 + 1 * (rs + 0)) (w0 := (w9)) (q0 := 0) C iL_law_934 lm_L_177 yc_X8_digest yv_X8_digest (k_digest hC10 eq0 ok0) rfl rfl hf11 (((wSim Z s (toN Z) (toM Z) hA lA oA tA eA (fun j => some (rw j)) (fun j => some (lr j)) fo ft fe dy ca ++ wRw Z (toN Z) rw p h f t) ++ wPl Z L) ++ wLr Z (toM Z) lr (toK Z) (toV Z)) [] (by simp only [List.append_assoc, List.append_nil, List.nil_append]) rfl ⟨Nat.le_of_ble_eq_true rfl, Nat.le_of_ble_eq_true rfl⟩ (Nat.le_of_ble_eq_true rfl) (Nat.zero_add _).symm (Nat.zero_add _).symm ?_
        rintro _ w11 ⟨rfl, hC11⟩
        refine J_st (.long (dgCn (toN Z) u dy ca pP pH pF pT) :: []) rfl ?_
        refine J_ws ((((wSim Z s (toN Z) (toM Z) hA lA oA tA eA (fun j => some (rw j)) (fun j => some (lr j)) fo ft fe dy ca ++ wRw Z (toN Z) rw p h f t) ++ wPl Z L) ++ wLr Z (toM Z) lr (toK Z) (toV Z)) ++ w11) (by simp only [List.append_assoc, List.append_nil, List.nil_append]) ?_
        refine J_lload C iL_law_937 rfl ?_
        refine J_lcmp C iL_law_939 ?_
        refine J_ifeqL 945 C iL_law_940 rfl (fun h940 => ?_) (fun h940 => absurd hdg h940)
        refine J_lvm [(13, .int (nI oq)), (9, .int (nI (alN p h f t (toN Z)))), (7, .long dg9), (6, .int x9), (5, .int (nI tm9)), (4, .int (nI (toN Z))), (3, .ref s), (2, .ref t9), (1, .ref (x 0)), (0, .ref (zms Z 3))] rfl ?_
        refine J_room (rc2 := rc) (rs2 := rs) (by omega) (by omega) ?_
        exact next oq hoq w11 hC11
    · refine J_lvm [(20, .int (nI (fvN p h f t (toN Z) mq oq m1))), (19, .int (nI (fvN p h f t (toN Z) mq oq m0))), (18, .int (nI (6 + m1))), (17, .ref (rw oq)), (16, .int (nI ww)), (15, .int (nI (6 + m0))), (14, .int (nI mq)), (13, .int (nI oq)), (9, .int (nI (alN p h f t (toN Z)))), (7, .long dg9), (6, .int x9), (5, .int (nI tm9)), (4, .int (nI (toN Z))), (3, .ref s), (2, .ref t9), (1, .ref (x 0)), (0, .ref (zms Z 3))] rfl ?_
      refine J_iload C iL_law_863 rfl ?_
      refine J_ifge 875 C iL_law_865 rfl (fun h865 => ?_) (fun h865 => absurd (nI_pos' (n := ww) (by omega)) h865)
      refine J_iload C iL_law_875 rfl ?_
      refine J_iload C iL_law_877 rfl ?_
      by_cases hwo : ww = oq
      · refine J_icmpne 891 C iL_law_879 rfl (fun h879 => absurd (congrArg nI hwo) h879) (fun h879 => ?_)
        refine J_iload C iL_law_882 rfl ?_
        refine J_iload C iL_law_884 rfl ?_
        refine J_icmplt 891 C iL_law_886 rfl (fun h886 => ?_) (fun h886 => absurd (nI_lt (a := fvN p h f t (toN Z) mq oq m0) (b := alN p h f t (toN Z)) (by have h1 := hmin mm hmm; have h2 : fvN p h f t (toN Z) mq ww mm < alN p h f t (toN Z) := hlt; rw [hwo] at h2; omega) (by omega)) h886)
        refine J_aload C iL_law_891 rfl ?_
        refine J_iconst 2 C iL_law_893 rfl ?_
        refine J_iald (n := 4) (f := rowF p h f t oq) (((wSim Z s (toN Z) (toM Z) hA lA oA tA eA (fun j => some (rw j)) (fun j => some (lr j)) fo ft fe dy ca)).length + oq) C iL_law_894 (mid_at (A := (wSim Z s (toN Z) (toM Z) hA lA oA tA eA (fun j => some (rw j)) (fun j => some (lr j)) fo ft fe dy ca)) (M := wRw Z (toN Z) rw p h f t) (B := ((wPl Z L ++ wLr Z (toM Z) lr (toK Z) (toV Z)) ++ w5)) (by simp only [List.append_assoc, List.append_nil, List.nil_append]) (wRw_at (by omega))) (vp_in_nI (n := 2) (by decide) (by decide)) ?_
        refine J_st (.int (cuI (f oq)) :: []) rfl ?_
        by_cases hf0 : f oq = 0
        · refine J_ifge 912 C iL_law_895 rfl (fun h895 => absurd h895 (Int32.not_le.mpr ((cu_neg (by omega)).mpr hf0))) (fun h895 => ?_)
          refine J_aload_n C iL_law_898 rfl rfl ?_
          refine J_iload C iL_law_899 rfl ?_
          obtain ⟨fs12, hf12⟩ := CI.head hC5
          refine J_room (rc2 := 2 + (11 + 1 * (rc + 0))) (rs2 := 12 + (66 + 1 * (rs + 0))) (by omega) (by omega) ?_
          refine J_cVb (As := [.int (nI oq)]) (st := []) (rc2 := 11 + 1 * (rc + 0)) (rs2 := 66 + 1 * (rs + 0)) (w0 := (w5)) (q0 := 0) C iL_law_901 lm_L_144 yc_X8_endCurfew yv_X8_endCurfew (k_endCurfew hl hC5 eq5 ok5 (a := oq) hoq (by simp only [upN, if_true]; omega)) rfl rfl hf12 (((wSim Z s (toN Z) (toM Z) hA lA oA tA eA (fun j => some (rw j)) (fun j => some (lr j)) fo ft fe dy ca ++ wRw Z (toN Z) rw p h f t) ++ wPl Z L) ++ wLr Z (toM Z) lr (toK Z) (toV Z)) [] (by simp only [List.append_assoc, List.append_nil, List.nil_append]) rfl ⟨Nat.le_of_ble_eq_true rfl, Nat.le_of_ble_eq_true rfl⟩ (Nat.le_of_ble_eq_true rfl) rfl rfl ?_
          rintro _ w12 ⟨rfl, hC12⟩
          refine J_st (.int (nI (alN p h (upN (upN (upN f oq (6 + m0)) oq (6 + m1)) oq 0) (upN (upN (upN t oq (6 + m0 + mq - 1)) oq (6 + m1 + mq - 1)) oq 0) (toN Z))) :: []) rfl ?_
          refine J_ws ((((wSim Z s (toN Z) (toM Z) hA lA oA tA eA (fun j => some (rw j)) (fun j => some (lr j)) fo ft fe dy ca ++ wRw Z (toN Z) rw p h f t) ++ wPl Z L) ++ wLr Z (toM Z) lr (toK Z) (toV Z)) ++ w12) (by simp only [List.append_assoc, List.append_nil, List.nil_append]) ?_
          refine J_iload C iL_law_904 rfl ?_
          refine J_icmpeq 933 C iL_law_906 rfl (fun h906 => ?_) (fun h906 => absurd (congrArg nI (by rw [upN_bk2 hf0, upN_bk2 (show t oq = 0 by omega)])) h906)
          have hpF : pF oq = -1 := by rw [(eq0 oq hoq).2.2.1]; exact (by rw [hf0]; rfl)
          have hpT : pT oq = -1 := by rw [(eq0 oq hoq).2.2.2]; exact (by rw [show t oq = 0 by omega]; rfl)
          have hC13 : CI Z x (toN Z) u tm er dy ca pP pH pF pT op f1 f2 l0 hh c0 c1 c2 c3 tb w12 := by have z9 := hC12; rw [upd_back hpF, upd_back hpT] at z9; exact z9
          refine J_aload_n C iL_law_933 rfl rfl ?_
          obtain ⟨fs14, hf14⟩ := CI.head hC13
          refine J_cVb (As := []) (st := []) (rc2 := 11 + 1 * (rc + 0)) (rs2 := 66 + 1 * (rs + 0)) (w0 := (w12)) (q0 := 0) C iL_law_934 lm_L_177 yc_X8_digest yv_X8_digest (k_digest hC13 eq0 ok0) rfl rfl hf14 (((wSim Z s (toN Z) (toM Z) hA lA oA tA eA (fun j => some (rw j)) (fun j => some (lr j)) fo ft fe dy ca ++ wRw Z (toN Z) rw p h f t) ++ wPl Z L) ++ wLr Z (toM Z) lr (toK Z) (toV Z)) [] (by simp only [List.append_assoc, List.append_nil, List.nil_append]) rfl ⟨Nat.le_of_ble_eq_true rfl, Nat.le_of_ble_eq_true rfl⟩ (Nat.le_of_ble_eq_true rfl) (Nat.zero_add _).symm (Nat.zero_add _).symm ?_
          rintro _ w14 ⟨rfl, hC14⟩
          refine J_st (.long (dgCn (toN Z) u dy ca pP pH pF pT) :: []) rfl ?_
          refine J_ws ((((wSim Z s (toN Z) (toM Z) hA lA oA tA eA (fun j => some (rw j)) (fun j => some (lr j)) fo ft fe dy ca ++ wRw Z (toN Z) rw p h f t) ++ wPl Z L) ++ wLr Z (toM Z) lr (toK Z) (toV Z)) ++ w14) (by simp only [List.append_assoc, List.append_nil, List.nil_append]) ?_
          refine J_lload C iL_law_937 rfl ?_
          refine J_lcmp C iL_law_939 ?_
          refine J_ifeqL 945 C iL_law_940 rfl (fun h940 => ?_) (fun h940 => absurd hdg h940)
          refine J_lvm [(13, .int (nI oq)), (9, .int (nI (alN p h f t (toN Z)))), (7, .long dg9), (6, .int x9), (5, .int (nI tm9)), (4, .int (nI (toN Z))), (3, .ref s), (2, .ref t9), (1, .ref (x 0)), (0, .ref (zms Z 3))] rfl ?_
          refine J_room (rc2 := rc) (rs2 := rs) (by omega) (by omega) ?_
          exact next oq hoq w14 hC14
        · refine J_ifge 912 C iL_law_895 rfl (fun h895 => ?_) (fun h895 => absurd (Int32.not_lt.mp (fun q => hf0 ((cu_neg (by omega)).mp q))) h895)
          refine J_aload_n C iL_law_912 rfl rfl ?_
          refine J_iload C iL_law_913 rfl ?_
          refine J_aload C iL_law_915 rfl ?_
          refine J_iconst 2 C iL_law_917 rfl ?_
          refine J_iald (n := 4) (f := rowF p h f t oq) (((wSim Z s (toN Z) (toM Z) hA lA oA tA eA (fun j => some (rw j)) (fun j => some (lr j)) fo ft fe dy ca)).length + oq) C iL_law_918 (mid_at (A := (wSim Z s (toN Z) (toM Z) hA lA oA tA eA (fun j => some (rw j)) (fun j => some (lr j)) fo ft fe dy ca)) (M := wRw Z (toN Z) rw p h f t) (B := ((wPl Z L ++ wLr Z (toM Z) lr (toK Z) (toV Z)) ++ w5)) (by simp only [List.append_assoc, List.append_nil, List.nil_append]) (wRw_at (by omega))) (vp_in_nI (n := 2) (by decide) (by decide)) ?_
          refine J_st (.int (cuI (f oq)) :: .int (nI oq) :: .ref (x 0) :: []) rfl ?_
          refine J_aload C iL_law_919 rfl ?_
          refine J_iconst 3 C iL_law_921 rfl ?_
          refine J_iald (n := 4) (f := rowF p h f t oq) (((wSim Z s (toN Z) (toM Z) hA lA oA tA eA (fun j => some (rw j)) (fun j => some (lr j)) fo ft fe dy ca)).length + oq) C iL_law_922 (mid_at (A := (wSim Z s (toN Z) (toM Z) hA lA oA tA eA (fun j => some (rw j)) (fun j => some (lr j)) fo ft fe dy ca)) (M := wRw Z (toN Z) rw p h f t) (B := ((wPl Z L ++ wLr Z (toM Z) lr (toK Z) (toV Z)) ++ w5)) (by simp only [List.append_assoc, List.append_nil, List.nil_append]) (wRw_at (by omega))) (vp_in_nI (n := 3) (by decide) (by decide)) ?_
          refine J_st (.int (cuI (t oq)) :: .int (cuI (f oq)) :: .int (nI oq) :: .ref (x 0) :: []) rfl ?_
          refine J_st (.int (nI (t oq)) :: .int (nI (f oq)) :: .int (nI oq) :: .ref (x 0) :: []) (by rw [cu_nI hf0, cu_nI (show ¬ t oq = 0 by omega)]) ?_
          obtain ⟨fs15, hf15⟩ := CI.head hC5
          refine J_room (rc2 := 2 + (11 + 1 * (rc + 0))) (rs2 := 12 + (66 + 1 * (rs + 0))) (by omega) (by omega) ?_
          refine J_cVb (As := [.int (nI oq), .int (nI (f oq)), .int (nI (t oq))]) (st := []) (rc2 := 11 + 1 * (rc + 0)) (rs2 := 66 + 1 * (rs + 0)) (w0 := (w5)) (q0 := 0) C iL_law_923 lm_L_137 yc_X8_setCurfew yv_X8_setCurfew (k_setCurfew hl hC5 eq5 ok5 (a := oq) (y := (f oq)) (z := (t oq)) hoq (by omega) (by omega) (by omega)) rfl rfl hf15 (((wSim Z s (toN Z) (toM Z) hA lA oA tA eA (fun j => some (rw j)) (fun j => some (lr j)) fo ft fe dy ca ++ wRw Z (toN Z) rw p h f t) ++ wPl Z L) ++ wLr Z (toM Z) lr (toK Z) (toV Z)) [] (by simp only [List.append_assoc, List.append_nil, List.nil_append]) rfl ⟨Nat.le_of_ble_eq_true rfl, Nat.le_of_ble_eq_true rfl⟩ (Nat.le_of_ble_eq_true rfl) rfl rfl ?_
          rintro _ w15 ⟨rfl, hC15⟩
          refine J_st (.int (nI (alN p h (upN (upN (upN f oq (6 + m0)) oq (6 + m1)) oq (f oq)) (upN (upN (upN t oq (6 + m0 + mq - 1)) oq (6 + m1 + mq - 1)) oq (t oq)) (toN Z))) :: []) rfl ?_
          refine J_ws ((((wSim Z s (toN Z) (toM Z) hA lA oA tA eA (fun j => some (rw j)) (fun j => some (lr j)) fo ft fe dy ca ++ wRw Z (toN Z) rw p h f t) ++ wPl Z L) ++ wLr Z (toM Z) lr (toK Z) (toV Z)) ++ w15) (by simp only [List.append_assoc, List.append_nil, List.nil_append]) ?_
          have eq15 := EqS.upC (a := oq) (x := (f oq)) (y := (t oq)) eq5
          rw [cu_nI (show ¬ (f oq) = 0 by omega), cu_nI (show ¬ (t oq) = 0 by omega)] at eq15
          have ok15 := SnOk.upC (a := oq) (x := (f oq)) (y := (t oq)) ok5 (Or.inr ⟨by omega, by omega, by omega⟩)
          refine J_iload C iL_law_926 rfl ?_
          refine J_icmpeq 933 C iL_law_928 rfl (fun h928 => ?_) (fun h928 => absurd (congrArg nI (by rw [upN_bk2 rfl, upN_bk2 rfl])) h928)
          have hpF : pF oq = nI (f oq) := by rw [(eq0 oq hoq).2.2.1]; exact cu_nI hf0
          have hpT : pT oq = nI (t oq) := by rw [(eq0 oq hoq).2.2.2]; exact cu_nI (by omega)
          have hC16 : CI Z x (toN Z) u tm er dy ca pP pH pF pT op f1 f2 l0 hh c0 c1 c2 c3 tb w15 := by have z9 := hC15; rw [upd_back hpF, upd_back hpT] at z9; exact z9
          refine J_aload_n C iL_law_933 rfl rfl ?_
          obtain ⟨fs17, hf17⟩ := CI.head hC16
          refine J_cVb (As := []) (st := []) (rc2 := 11 + 1 * (rc + 0)) (rs2 := 66 + 1 * (rs + 0)) (w0 := (w15)) (q0 := 0) C iL_law_934 lm_L_177 yc_X8_digest yv_X8_digest (k_digest hC16 eq0 ok0) rfl rfl hf17 (((wSim Z s (toN Z) (toM Z) hA lA oA tA eA (fun j => some (rw j)) (fun j => some (lr j)) fo ft fe dy ca ++ wRw Z (toN Z) rw p h f t) ++ wPl Z L) ++ wLr Z (toM Z) lr (toK Z) (toV Z)) [] (by simp only [List.append_assoc, List.append_nil, List.nil_append]) rfl ⟨Nat.le_of_ble_eq_true rfl, Nat.le_of_ble_eq_true rfl⟩ (Nat.le_of_ble_eq_true rfl) (Nat.zero_add _).symm (Nat.zero_add _).symm ?_
          rintro _ w17 ⟨rfl, hC17⟩
          refine J_st (.long (dgCn (toN Z) u dy ca pP pH pF pT) :: []) rfl ?_
          refine J_ws ((((wSim Z s (toN Z) (toM Z) hA lA oA tA eA (fun j => some (rw j)) (fun j => some (lr j)) fo ft fe dy ca ++ wRw Z (toN Z) rw p h f t) ++ wPl Z L) ++ wLr Z (toM Z) lr (toK Z) (toV Z)) ++ w17) (by simp only [List.append_assoc, List.append_nil, List.nil_append]) ?_
          refine J_lload C iL_law_937 rfl ?_
          refine J_lcmp C iL_law_939 ?_
          refine J_ifeqL 945 C iL_law_940 rfl (fun h940 => ?_) (fun h940 => absurd hdg h940)
          refine J_lvm [(13, .int (nI oq)), (9, .int (nI (alN p h f t (toN Z)))), (7, .long dg9), (6, .int x9), (5, .int (nI tm9)), (4, .int (nI (toN Z))), (3, .ref s), (2, .ref t9), (1, .ref (x 0)), (0, .ref (zms Z 3))] rfl ?_
          refine J_room (rc2 := rc) (rs2 := rs) (by omega) (by omega) ?_
          exact next oq hoq w17 hC17
      · refine J_icmpne 891 C iL_law_879 rfl (fun h879 => ?_) (fun h879 => absurd h879 (fun e => hwo ((nI_eq (by omega) (by omega)).mp e)))
        refine J_aload C iL_law_891 rfl ?_
        refine J_iconst 2 C iL_law_893 rfl ?_
        refine J_iald (n := 4) (f := rowF p h f t oq) (((wSim Z s (toN Z) (toM Z) hA lA oA tA eA (fun j => some (rw j)) (fun j => some (lr j)) fo ft fe dy ca)).length + oq) C iL_law_894 (mid_at (A := (wSim Z s (toN Z) (toM Z) hA lA oA tA eA (fun j => some (rw j)) (fun j => some (lr j)) fo ft fe dy ca)) (M := wRw Z (toN Z) rw p h f t) (B := ((wPl Z L ++ wLr Z (toM Z) lr (toK Z) (toV Z)) ++ w5)) (by simp only [List.append_assoc, List.append_nil, List.nil_append]) (wRw_at (by omega))) (vp_in_nI (n := 2) (by decide) (by decide)) ?_
        refine J_st (.int (cuI (f oq)) :: []) rfl ?_
        by_cases hf0 : f oq = 0
        · refine J_ifge 912 C iL_law_895 rfl (fun h895 => absurd h895 (Int32.not_le.mpr ((cu_neg (by omega)).mpr hf0))) (fun h895 => ?_)
          refine J_aload_n C iL_law_898 rfl rfl ?_
          refine J_iload C iL_law_899 rfl ?_
          obtain ⟨fs18, hf18⟩ := CI.head hC5
          refine J_room (rc2 := 2 + (11 + 1 * (rc + 0))) (rs2 := 12 + (66 + 1 * (rs + 0))) (by omega) (by omega) ?_
          refine J_cVb (As := [.int (nI oq)]) (st := []) (rc2 := 11 + 1 * (rc + 0)) (rs2 := 66 + 1 * (rs + 0)) (w0 := (w5)) (q0 := 0) C iL_law_901 lm_L_144 yc_X8_endCurfew yv_X8_endCurfew (k_endCurfew hl hC5 eq5 ok5 (a := oq) hoq (by simp only [upN, if_true]; omega)) rfl rfl hf18 (((wSim Z s (toN Z) (toM Z) hA lA oA tA eA (fun j => some (rw j)) (fun j => some (lr j)) fo ft fe dy ca ++ wRw Z (toN Z) rw p h f t) ++ wPl Z L) ++ wLr Z (toM Z) lr (toK Z) (toV Z)) [] (by simp only [List.append_assoc, List.append_nil, List.nil_append]) rfl ⟨Nat.le_of_ble_eq_true rfl, Nat.le_of_ble_eq_true rfl⟩ (Nat.le_of_ble_eq_true rfl) rfl rfl ?_
          rintro _ w18 ⟨rfl, hC18⟩
          refine J_st (.int (nI (alN p h (upN (upN (upN f oq (6 + m0)) oq (6 + m1)) oq 0) (upN (upN (upN t oq (6 + m0 + mq - 1)) oq (6 + m1 + mq - 1)) oq 0) (toN Z))) :: []) rfl ?_
          refine J_ws ((((wSim Z s (toN Z) (toM Z) hA lA oA tA eA (fun j => some (rw j)) (fun j => some (lr j)) fo ft fe dy ca ++ wRw Z (toN Z) rw p h f t) ++ wPl Z L) ++ wLr Z (toM Z) lr (toK Z) (toV Z)) ++ w18) (by simp only [List.append_assoc, List.append_nil, List.nil_append]) ?_
          refine J_iload C iL_law_904 rfl ?_
          refine J_icmpeq 933 C iL_law_906 rfl (fun h906 => ?_) (fun h906 => absurd (congrArg nI (by rw [upN_bk2 hf0, upN_bk2 (show t oq = 0 by omega)])) h906)
          have hpF : pF oq = -1 := by rw [(eq0 oq hoq).2.2.1]; exact (by rw [hf0]; rfl)
          have hpT : pT oq = -1 := by rw [(eq0 oq hoq).2.2.2]; exact (by rw [show t oq = 0 by omega]; rfl)
          have hC19 : CI Z x (toN Z) u tm er dy ca pP pH pF pT op f1 f2 l0 hh c0 c1 c2 c3 tb w18 := by have z9 := hC18; rw [upd_back hpF, upd_back hpT] at z9; exact z9
          refine J_aload_n C iL_law_933 rfl rfl ?_
          obtain ⟨fs20, hf20⟩ := CI.head hC19
          refine J_cVb (As := []) (st := []) (rc2 := 11 + 1 * (rc + 0)) (rs2 := 66 + 1 * (rs + 0)) (w0 := (w18)) (q0 := 0) C iL_law_934 lm_L_177 yc_X8_digest yv_X8_digest (k_digest hC19 eq0 ok0) rfl rfl hf20 (((wSim Z s (toN Z) (toM Z) hA lA oA tA eA (fun j => some (rw j)) (fun j => some (lr j)) fo ft fe dy ca ++ wRw Z (toN Z) rw p h f t) ++ wPl Z L) ++ wLr Z (toM Z) lr (toK Z) (toV Z)) [] (by simp only [List.append_assoc, List.append_nil, List.nil_append]) rfl ⟨Nat.le_of_ble_eq_true rfl, Nat.le_of_ble_eq_true rfl⟩ (Nat.le_of_ble_eq_true rfl) (Nat.zero_add _).symm (Nat.zero_add _).symm ?_
          rintro _ w20 ⟨rfl, hC20⟩
          refine J_st (.long (dgCn (toN Z) u dy ca pP pH pF pT) :: []) rfl ?_
          refine J_ws ((((wSim Z s (toN Z) (toM Z) hA lA oA tA eA (fun j => some (rw j)) (fun j => some (lr j)) fo ft fe dy ca ++ wRw Z (toN Z) rw p h f t) ++ wPl Z L) ++ wLr Z (toM Z) lr (toK Z) (toV Z)) ++ w20) (by simp only [List.append_assoc, List.append_nil, List.nil_append]) ?_
          refine J_lload C iL_law_937 rfl ?_
          refine J_lcmp C iL_law_939 ?_
          refine J_ifeqL 945 C iL_law_940 rfl (fun h940 => ?_) (fun h940 => absurd hdg h940)
          refine J_lvm [(13, .int (nI oq)), (9, .int (nI (alN p h f t (toN Z)))), (7, .long dg9), (6, .int x9), (5, .int (nI tm9)), (4, .int (nI (toN Z))), (3, .ref s), (2, .ref t9), (1, .ref (x 0)), (0, .ref (zms Z 3))] rfl ?_
          refine J_room (rc2 := rc) (rs2 := rs) (by omega) (by omega) ?_
          exact next oq hoq w20 hC20
        · refine J_ifge 912 C iL_law_895 rfl (fun h895 => ?_) (fun h895 => absurd (Int32.not_lt.mp (fun q => hf0 ((cu_neg (by omega)).mp q))) h895)
          refine J_aload_n C iL_law_912 rfl rfl ?_
          refine J_iload C iL_law_913 rfl ?_
          refine J_aload C iL_law_915 rfl ?_
          refine J_iconst 2 C iL_law_917 rfl ?_
          refine J_iald (n := 4) (f := rowF p h f t oq) (((wSim Z s (toN Z) (toM Z) hA lA oA tA eA (fun j => some (rw j)) (fun j => some (lr j)) fo ft fe dy ca)).length + oq) C iL_law_918 (mid_at (A := (wSim Z s (toN Z) (toM Z) hA lA oA tA eA (fun j => some (rw j)) (fun j => some (lr j)) fo ft fe dy ca)) (M := wRw Z (toN Z) rw p h f t) (B := ((wPl Z L ++ wLr Z (toM Z) lr (toK Z) (toV Z)) ++ w5)) (by simp only [List.append_assoc, List.append_nil, List.nil_append]) (wRw_at (by omega))) (vp_in_nI (n := 2) (by decide) (by decide)) ?_
          refine J_st (.int (cuI (f oq)) :: .int (nI oq) :: .ref (x 0) :: []) rfl ?_
          refine J_aload C iL_law_919 rfl ?_
          refine J_iconst 3 C iL_law_921 rfl ?_
          refine J_iald (n := 4) (f := rowF p h f t oq) (((wSim Z s (toN Z) (toM Z) hA lA oA tA eA (fun j => some (rw j)) (fun j => some (lr j)) fo ft fe dy ca)).length + oq) C iL_law_922 (mid_at (A := (wSim Z s (toN Z) (toM Z) hA lA oA tA eA (fun j => some (rw j)) (fun j => some (lr j)) fo ft fe dy ca)) (M := wRw Z (toN Z) rw p h f t) (B := ((wPl Z L ++ wLr Z (toM Z) lr (toK Z) (toV Z)) ++ w5)) (by simp only [List.append_assoc, List.append_nil, List.nil_append]) (wRw_at (by omega))) (vp_in_nI (n := 3) (by decide) (by decide)) ?_
          refine J_st (.int (cuI (t oq)) :: .int (cuI (f oq)) :: .int (nI oq) :: .ref (x 0) :: []) rfl ?_
          refine J_st (.int (nI (t oq)) :: .int (nI (f oq)) :: .int (nI oq) :: .ref (x 0) :: []) (by rw [cu_nI hf0, cu_nI (show ¬ t oq = 0 by omega)]) ?_
          obtain ⟨fs21, hf21⟩ := CI.head hC5
          refine J_room (rc2 := 2 + (11 + 1 * (rc + 0))) (rs2 := 12 + (66 + 1 * (rs + 0))) (by omega) (by omega) ?_
          refine J_cVb (As := [.int (nI oq), .int (nI (f oq)), .int (nI (t oq))]) (st := []) (rc2 := 11 + 1 * (rc + 0)) (rs2 := 66 + 1 * (rs + 0)) (w0 := (w5)) (q0 := 0) C iL_law_923 lm_L_137 yc_X8_setCurfew yv_X8_setCurfew (k_setCurfew hl hC5 eq5 ok5 (a := oq) (y := (f oq)) (z := (t oq)) hoq (by omega) (by omega) (by omega)) rfl rfl hf21 (((wSim Z s (toN Z) (toM Z) hA lA oA tA eA (fun j => some (rw j)) (fun j => some (lr j)) fo ft fe dy ca ++ wRw Z (toN Z) rw p h f t) ++ wPl Z L) ++ wLr Z (toM Z) lr (toK Z) (toV Z)) [] (by simp only [List.append_assoc, List.append_nil, List.nil_append]) rfl ⟨Nat.le_of_ble_eq_true rfl, Nat.le_of_ble_eq_true rfl⟩ (Nat.le_of_ble_eq_true rfl) rfl rfl ?_
          rintro _ w21 ⟨rfl, hC21⟩
          refine J_st (.int (nI (alN p h (upN (upN (upN f oq (6 + m0)) oq (6 + m1)) oq (f oq)) (upN (upN (upN t oq (6 + m0 + mq - 1)) oq (6 + m1 + mq - 1)) oq (t oq)) (toN Z))) :: []) rfl ?_
          refine J_ws ((((wSim Z s (toN Z) (toM Z) hA lA oA tA eA (fun j => some (rw j)) (fun j => some (lr j)) fo ft fe dy ca ++ wRw Z (toN Z) rw p h f t) ++ wPl Z L) ++ wLr Z (toM Z) lr (toK Z) (toV Z)) ++ w21) (by simp only [List.append_assoc, List.append_nil, List.nil_append]) ?_
          have eq21 := EqS.upC (a := oq) (x := (f oq)) (y := (t oq)) eq5
          rw [cu_nI (show ¬ (f oq) = 0 by omega), cu_nI (show ¬ (t oq) = 0 by omega)] at eq21
          have ok21 := SnOk.upC (a := oq) (x := (f oq)) (y := (t oq)) ok5 (Or.inr ⟨by omega, by omega, by omega⟩)
          refine J_iload C iL_law_926 rfl ?_
          refine J_icmpeq 933 C iL_law_928 rfl (fun h928 => ?_) (fun h928 => absurd (congrArg nI (by rw [upN_bk2 rfl, upN_bk2 rfl])) h928)
          have hpF : pF oq = nI (f oq) := by rw [(eq0 oq hoq).2.2.1]; exact cu_nI hf0
          have hpT : pT oq = nI (t oq) := by rw [(eq0 oq hoq).2.2.2]; exact cu_nI (by omega)
          have hC22 : CI Z x (toN Z) u tm er dy ca pP pH pF pT op f1 f2 l0 hh c0 c1 c2 c3 tb w21 := by have z9 := hC21; rw [upd_back hpF, upd_back hpT] at z9; exact z9
          refine J_aload_n C iL_law_933 rfl rfl ?_
          obtain ⟨fs23, hf23⟩ := CI.head hC22
          refine J_cVb (As := []) (st := []) (rc2 := 11 + 1 * (rc + 0)) (rs2 := 66 + 1 * (rs + 0)) (w0 := (w21)) (q0 := 0) C iL_law_934 lm_L_177 yc_X8_digest yv_X8_digest (k_digest hC22 eq0 ok0) rfl rfl hf23 (((wSim Z s (toN Z) (toM Z) hA lA oA tA eA (fun j => some (rw j)) (fun j => some (lr j)) fo ft fe dy ca ++ wRw Z (toN Z) rw p h f t) ++ wPl Z L) ++ wLr Z (toM Z) lr (toK Z) (toV Z)) [] (by simp only [List.append_assoc, List.append_nil, List.nil_append]) rfl ⟨Nat.le_of_ble_eq_true rfl, Nat.le_of_ble_eq_true rfl⟩ (Nat.le_of_ble_eq_true rfl) (Nat.zero_add _).symm (Nat.zero_add _).symm ?_
          rintro _ w23 ⟨rfl, hC23⟩
          refine J_st (.long (dgCn (toN Z) u dy ca pP pH pF pT) :: []) rfl ?_
          refine J_ws ((((wSim Z s (toN Z) (toM Z) hA lA oA tA eA (fun j => some (rw j)) (fun j => some (lr j)) fo ft fe dy ca ++ wRw Z (toN Z) rw p h f t) ++ wPl Z L) ++ wLr Z (toM Z) lr (toK Z) (toV Z)) ++ w23) (by simp only [List.append_assoc, List.append_nil, List.nil_append]) ?_
          refine J_lload C iL_law_937 rfl ?_
          refine J_lcmp C iL_law_939 ?_
          refine J_ifeqL 945 C iL_law_940 rfl (fun h940 => ?_) (fun h940 => absurd hdg h940)
          refine J_lvm [(13, .int (nI oq)), (9, .int (nI (alN p h f t (toN Z)))), (7, .long dg9), (6, .int x9), (5, .int (nI tm9)), (4, .int (nI (toN Z))), (3, .ref s), (2, .ref t9), (1, .ref (x 0)), (0, .ref (zms Z 3))] rfl ?_
          refine J_room (rc2 := rc) (rs2 := rs) (by omega) (by omega) ?_
          exact next oq hoq w23 hC23
  · refine J_icmpne 863 C iL_law_853 rfl (fun h853 => ?_) (fun h853 => absurd h853 (fun e => hsame ((nI_eq (by omega) (by omega)).mp e)))
    rcases hbs with ⟨rfl, hall⟩ | ⟨ww, mm, ⟨hww, hmm⟩, rfl, hlt, hall⟩
    · refine J_lvm [(20, .int (nI (fvN p h f t (toN Z) mq oq m1))), (19, .int (nI (fvN p h f t (toN Z) mq oq m0))), (18, .int (nI (6 + m1))), (17, .ref (rw oq)), (16, .int (-1)), (15, .int (nI (6 + m0))), (14, .int (nI mq)), (13, .int (nI oq)), (9, .int (nI (alN p h f t (toN Z)))), (7, .long dg9), (6, .int x9), (5, .int (nI tm9)), (4, .int (nI (toN Z))), (3, .ref s), (2, .ref t9), (1, .ref (x 0)), (0, .ref (zms Z 3))] rfl ?_
      refine J_iload C iL_law_863 rfl ?_
      refine J_ifge 875 C iL_law_865 rfl (fun h865 => absurd h865 (by decide)) (fun h865 => ?_)
      refine J_iload C iL_law_868 rfl ?_
      refine J_iload C iL_law_870 rfl ?_
      refine J_icmplt 889 C iL_law_872 rfl (fun h872 => absurd h872 (nI_nlt (a := fvN p h f t (toN Z) mq oq m0) (b := alN p h f t (toN Z)) (hall oq m0 ⟨hoq, hm0⟩) (by omega))) (fun h872 => ?_)
      refine J_iload C iL_law_875 rfl ?_
      refine J_iload C iL_law_877 rfl ?_
      refine J_icmpne 891 C iL_law_879 rfl (fun h879 => ?_) (fun h879 => absurd h879 (fun e => nI_pos (n := oq) (by omega) (show nI oq < 0 from e ▸ (by decide : (-1 : Int32) < 0))))
      refine J_aload C iL_law_891 rfl ?_
      refine J_iconst 2 C iL_law_893 rfl ?_
      refine J_iald (n := 4) (f := rowF p h f t oq) (((wSim Z s (toN Z) (toM Z) hA lA oA tA eA (fun j => some (rw j)) (fun j => some (lr j)) fo ft fe dy ca)).length + oq) C iL_law_894 (mid_at (A := (wSim Z s (toN Z) (toM Z) hA lA oA tA eA (fun j => some (rw j)) (fun j => some (lr j)) fo ft fe dy ca)) (M := wRw Z (toN Z) rw p h f t) (B := ((wPl Z L ++ wLr Z (toM Z) lr (toK Z) (toV Z)) ++ w5)) (by simp only [List.append_assoc, List.append_nil, List.nil_append]) (wRw_at (by omega))) (vp_in_nI (n := 2) (by decide) (by decide)) ?_
      refine J_st (.int (cuI (f oq)) :: []) rfl ?_
      by_cases hf0 : f oq = 0
      · refine J_ifge 912 C iL_law_895 rfl (fun h895 => absurd h895 (Int32.not_le.mpr ((cu_neg (by omega)).mpr hf0))) (fun h895 => ?_)
        refine J_aload_n C iL_law_898 rfl rfl ?_
        refine J_iload C iL_law_899 rfl ?_
        obtain ⟨fs24, hf24⟩ := CI.head hC5
        refine J_room (rc2 := 2 + (11 + 1 * (rc + 0))) (rs2 := 12 + (66 + 1 * (rs + 0))) (by omega) (by omega) ?_
        refine J_cVb (As := [.int (nI oq)]) (st := []) (rc2 := 11 + 1 * (rc + 0)) (rs2 := 66 + 1 * (rs + 0)) (w0 := (w5)) (q0 := 0) C iL_law_901 lm_L_144 yc_X8_endCurfew yv_X8_endCurfew (k_endCurfew hl hC5 eq5 ok5 (a := oq) hoq (by simp only [upN, if_true]; omega)) rfl rfl hf24 (((wSim Z s (toN Z) (toM Z) hA lA oA tA eA (fun j => some (rw j)) (fun j => some (lr j)) fo ft fe dy ca ++ wRw Z (toN Z) rw p h f t) ++ wPl Z L) ++ wLr Z (toM Z) lr (toK Z) (toV Z)) [] (by simp only [List.append_assoc, List.append_nil, List.nil_append]) rfl ⟨Nat.le_of_ble_eq_true rfl, Nat.le_of_ble_eq_true rfl⟩ (Nat.le_of_ble_eq_true rfl) rfl rfl ?_
        rintro _ w24 ⟨rfl, hC24⟩
        refine J_st (.int (nI (alN p h (upN (upN (upN f oq (6 + m0)) oq (6 + m1)) oq 0) (upN (upN (upN t oq (6 + m0 + mq - 1)) oq (6 + m1 + mq - 1)) oq 0) (toN Z))) :: []) rfl ?_
        refine J_ws ((((wSim Z s (toN Z) (toM Z) hA lA oA tA eA (fun j => some (rw j)) (fun j => some (lr j)) fo ft fe dy ca ++ wRw Z (toN Z) rw p h f t) ++ wPl Z L) ++ wLr Z (toM Z) lr (toK Z) (toV Z)) ++ w24) (by simp only [List.append_assoc, List.append_nil, List.nil_append]) ?_
        refine J_iload C iL_law_904 rfl ?_
        refine J_icmpeq 933 C iL_law_906 rfl (fun h906 => ?_) (fun h906 => absurd (congrArg nI (by rw [upN_bk2 hf0, upN_bk2 (show t oq = 0 by omega)])) h906)
        have hpF : pF oq = -1 := by rw [(eq0 oq hoq).2.2.1]; exact (by rw [hf0]; rfl)
        have hpT : pT oq = -1 := by rw [(eq0 oq hoq).2.2.2]; exact (by rw [show t oq = 0 by omega]; rfl)
        have hC25 : CI Z x (toN Z) u tm er dy ca pP pH pF pT op f1 f2 l0 hh c0 c1 c2 c3 tb w24 := by have z9 := hC24; rw [upd_back hpF, upd_back hpT] at z9; exact z9
        refine J_aload_n C iL_law_933 rfl rfl ?_
        obtain ⟨fs26, hf26⟩ := CI.head hC25
        refine J_cVb (As := []) (st := []) (rc2 := 11 + 1 * (rc + 0)) (rs2 := 66 + 1 * (rs + 0)) (w0 := (w24)) (q0 := 0) C iL_law_934 lm_L_177 yc_X8_digest yv_X8_digest (k_digest hC25 eq0 ok0) rfl rfl hf26 (((wSim Z s (toN Z) (toM Z) hA lA oA tA eA (fun j => some (rw j)) (fun j => some (lr j)) fo ft fe dy ca ++ wRw Z (toN Z) rw p h f t) ++ wPl Z L) ++ wLr Z (toM Z) lr (toK Z) (toV Z)) [] (by simp only [List.append_assoc, List.append_nil, List.nil_append]) rfl ⟨Nat.le_of_ble_eq_true rfl, Nat.le_of_ble_eq_true rfl⟩ (Nat.le_of_ble_eq_true rfl) (Nat.zero_add _).symm (Nat.zero_add _).symm ?_
        rintro _ w26 ⟨rfl, hC26⟩
        refine J_st (.long (dgCn (toN Z) u dy ca pP pH pF pT) :: []) rfl ?_
        refine J_ws ((((wSim Z s (toN Z) (toM Z) hA lA oA tA eA (fun j => some (rw j)) (fun j => some (lr j)) fo ft fe dy ca ++ wRw Z (toN Z) rw p h f t) ++ wPl Z L) ++ wLr Z (toM Z) lr (toK Z) (toV Z)) ++ w26) (by simp only [List.append_assoc, List.append_nil, List.nil_append]) ?_
        refine J_lload C iL_law_937 rfl ?_
        refine J_lcmp C iL_law_939 ?_
        refine J_ifeqL 945 C iL_law_940 rfl (fun h940 => ?_) (fun h940 => absurd hdg h940)
        refine J_lvm [(13, .int (nI oq)), (9, .int (nI (alN p h f t (toN Z)))), (7, .long dg9), (6, .int x9), (5, .int (nI tm9)), (4, .int (nI (toN Z))), (3, .ref s), (2, .ref t9), (1, .ref (x 0)), (0, .ref (zms Z 3))] rfl ?_
        refine J_room (rc2 := rc) (rs2 := rs) (by omega) (by omega) ?_
        exact next oq hoq w26 hC26
      · refine J_ifge 912 C iL_law_895 rfl (fun h895 => ?_) (fun h895 => absurd (Int32.not_lt.mp (fun q => hf0 ((cu_neg (by omega)).mp q))) h895)
        refine J_aload_n C iL_law_912 rfl rfl ?_
        refine J_iload C iL_law_913 rfl ?_
        refine J_aload C iL_law_915 rfl ?_
        refine J_iconst 2 C iL_law_917 rfl ?_
        refine J_iald (n := 4) (f := rowF p h f t oq) (((wSim Z s (toN Z) (toM Z) hA lA oA tA eA (fun j => some (rw j)) (fun j => some (lr j)) fo ft fe dy ca)).length + oq) C iL_law_918 (mid_at (A := (wSim Z s (toN Z) (toM Z) hA lA oA tA eA (fun j => some (rw j)) (fun j => some (lr j)) fo ft fe dy ca)) (M := wRw Z (toN Z) rw p h f t) (B := ((wPl Z L ++ wLr Z (toM Z) lr (toK Z) (toV Z)) ++ w5)) (by simp only [List.append_assoc, List.append_nil, List.nil_append]) (wRw_at (by omega))) (vp_in_nI (n := 2) (by decide) (by decide)) ?_
        refine J_st (.int (cuI (f oq)) :: .int (nI oq) :: .ref (x 0) :: []) rfl ?_
        refine J_aload C iL_law_919 rfl ?_
        refine J_iconst 3 C iL_law_921 rfl ?_
        refine J_iald (n := 4) (f := rowF p h f t oq) (((wSim Z s (toN Z) (toM Z) hA lA oA tA eA (fun j => some (rw j)) (fun j => some (lr j)) fo ft fe dy ca)).length + oq) C iL_law_922 (mid_at (A := (wSim Z s (toN Z) (toM Z) hA lA oA tA eA (fun j => some (rw j)) (fun j => some (lr j)) fo ft fe dy ca)) (M := wRw Z (toN Z) rw p h f t) (B := ((wPl Z L ++ wLr Z (toM Z) lr (toK Z) (toV Z)) ++ w5)) (by simp only [List.append_assoc, List.append_nil, List.nil_append]) (wRw_at (by omega))) (vp_in_nI (n := 3) (by decide) (by decide)) ?_
        refine J_st (.int (cuI (t oq)) :: .int (cuI (f oq)) :: .int (nI oq) :: .ref (x 0) :: []) rfl ?_
        refine J_st (.int (nI (t oq)) :: .int (nI (f oq)) :: .int (nI oq) :: .ref (x 0) :: []) (by rw [cu_nI hf0, cu_nI (show ¬ t oq = 0 by omega)]) ?_
        obtain ⟨fs27, hf27⟩ := CI.head hC5
        refine J_room (rc2 := 2 + (11 + 1 * (rc + 0))) (rs2 := 12 + (66 + 1 * (rs + 0))) (by omega) (by omega) ?_
        refine J_cVb (As := [.int (nI oq), .int (nI (f oq)), .int (nI (t oq))]) (st := []) (rc2 := 11 + 1 * (rc + 0)) (rs2 := 66 + 1 * (rs + 0)) (w0 := (w5)) (q0 := 0) C iL_law_923 lm_L_137 yc_X8_setCurfew yv_X8_setCurfew (k_setCurfew hl hC5 eq5 ok5 (a := oq) (y := (f oq)) (z := (t oq)) hoq (by omega) (by omega) (by omega)) rfl rfl hf27 (((wSim Z s (toN Z) (toM Z) hA lA oA tA eA (fun j => some (rw j)) (fun j => some (lr j)) fo ft fe dy ca ++ wRw Z (toN Z) rw p h f t) ++ wPl Z L) ++ wLr Z (toM Z) lr (toK Z) (toV Z)) [] (by simp only [List.append_assoc, List.append_nil, List.nil_append]) rfl ⟨Nat.le_of_ble_eq_true rfl, Nat.le_of_ble_eq_true rfl⟩ (Nat.le_of_ble_eq_true rfl) rfl rfl ?_
        rintro _ w27 ⟨rfl, hC27⟩
        refine J_st (.int (nI (alN p h (upN (upN (upN f oq (6 + m0)) oq (6 + m1)) oq (f oq)) (upN (upN (upN t oq (6 + m0 + mq - 1)) oq (6 + m1 + mq - 1)) oq (t oq)) (toN Z))) :: []) rfl ?_
        refine J_ws ((((wSim Z s (toN Z) (toM Z) hA lA oA tA eA (fun j => some (rw j)) (fun j => some (lr j)) fo ft fe dy ca ++ wRw Z (toN Z) rw p h f t) ++ wPl Z L) ++ wLr Z (toM Z) lr (toK Z) (toV Z)) ++ w27) (by simp only [List.append_assoc, List.append_nil, List.nil_append]) ?_
        have eq27 := EqS.upC (a := oq) (x := (f oq)) (y := (t oq)) eq5
        rw [cu_nI (show ¬ (f oq) = 0 by omega), cu_nI (show ¬ (t oq) = 0 by omega)] at eq27
        have ok27 := SnOk.upC (a := oq) (x := (f oq)) (y := (t oq)) ok5 (Or.inr ⟨by omega, by omega, by omega⟩)
        refine J_iload C iL_law_926 rfl ?_
        refine J_icmpeq 933 C iL_law_928 rfl (fun h928 => ?_) (fun h928 => absurd (congrArg nI (by rw [upN_bk2 rfl, upN_bk2 rfl])) h928)
        have hpF : pF oq = nI (f oq) := by rw [(eq0 oq hoq).2.2.1]; exact cu_nI hf0
        have hpT : pT oq = nI (t oq) := by rw [(eq0 oq hoq).2.2.2]; exact cu_nI (by omega)
        have hC28 : CI Z x (toN Z) u tm er dy ca pP pH pF pT op f1 f2 l0 hh c0 c1 c2 c3 tb w27 := by have z9 := hC27; rw [upd_back hpF, upd_back hpT] at z9; exact z9
        refine J_aload_n C iL_law_933 rfl rfl ?_
        obtain ⟨fs29, hf29⟩ := CI.head hC28
        refine J_cVb (As := []) (st := []) (rc2 := 11 + 1 * (rc + 0)) (rs2 := 66 + 1 * (rs + 0)) (w0 := (w27)) (q0 := 0) C iL_law_934 lm_L_177 yc_X8_digest yv_X8_digest (k_digest hC28 eq0 ok0) rfl rfl hf29 (((wSim Z s (toN Z) (toM Z) hA lA oA tA eA (fun j => some (rw j)) (fun j => some (lr j)) fo ft fe dy ca ++ wRw Z (toN Z) rw p h f t) ++ wPl Z L) ++ wLr Z (toM Z) lr (toK Z) (toV Z)) [] (by simp only [List.append_assoc, List.append_nil, List.nil_append]) rfl ⟨Nat.le_of_ble_eq_true rfl, Nat.le_of_ble_eq_true rfl⟩ (Nat.le_of_ble_eq_true rfl) (Nat.zero_add _).symm (Nat.zero_add _).symm ?_
        rintro _ w29 ⟨rfl, hC29⟩
        refine J_st (.long (dgCn (toN Z) u dy ca pP pH pF pT) :: []) rfl ?_
        refine J_ws ((((wSim Z s (toN Z) (toM Z) hA lA oA tA eA (fun j => some (rw j)) (fun j => some (lr j)) fo ft fe dy ca ++ wRw Z (toN Z) rw p h f t) ++ wPl Z L) ++ wLr Z (toM Z) lr (toK Z) (toV Z)) ++ w29) (by simp only [List.append_assoc, List.append_nil, List.nil_append]) ?_
        refine J_lload C iL_law_937 rfl ?_
        refine J_lcmp C iL_law_939 ?_
        refine J_ifeqL 945 C iL_law_940 rfl (fun h940 => ?_) (fun h940 => absurd hdg h940)
        refine J_lvm [(13, .int (nI oq)), (9, .int (nI (alN p h f t (toN Z)))), (7, .long dg9), (6, .int x9), (5, .int (nI tm9)), (4, .int (nI (toN Z))), (3, .ref s), (2, .ref t9), (1, .ref (x 0)), (0, .ref (zms Z 3))] rfl ?_
        refine J_room (rc2 := rc) (rs2 := rs) (by omega) (by omega) ?_
        exact next oq hoq w29 hC29
    · refine J_lvm [(20, .int (nI (fvN p h f t (toN Z) mq oq m1))), (19, .int (nI (fvN p h f t (toN Z) mq oq m0))), (18, .int (nI (6 + m1))), (17, .ref (rw oq)), (16, .int (nI ww)), (15, .int (nI (6 + m0))), (14, .int (nI mq)), (13, .int (nI oq)), (9, .int (nI (alN p h f t (toN Z)))), (7, .long dg9), (6, .int x9), (5, .int (nI tm9)), (4, .int (nI (toN Z))), (3, .ref s), (2, .ref t9), (1, .ref (x 0)), (0, .ref (zms Z 3))] rfl ?_
      refine J_iload C iL_law_863 rfl ?_
      refine J_ifge 875 C iL_law_865 rfl (fun h865 => ?_) (fun h865 => absurd (nI_pos' (n := ww) (by omega)) h865)
      refine J_iload C iL_law_875 rfl ?_
      refine J_iload C iL_law_877 rfl ?_
      by_cases hwo : ww = oq
      · refine J_icmpne 891 C iL_law_879 rfl (fun h879 => absurd (congrArg nI hwo) h879) (fun h879 => ?_)
        refine J_iload C iL_law_882 rfl ?_
        refine J_iload C iL_law_884 rfl ?_
        refine J_icmplt 891 C iL_law_886 rfl (fun h886 => ?_) (fun h886 => absurd (nI_lt (a := fvN p h f t (toN Z) mq oq m0) (b := alN p h f t (toN Z)) (by have h1 := hmin mm hmm; have h2 : fvN p h f t (toN Z) mq ww mm < alN p h f t (toN Z) := hlt; rw [hwo] at h2; omega) (by omega)) h886)
        refine J_aload C iL_law_891 rfl ?_
        refine J_iconst 2 C iL_law_893 rfl ?_
        refine J_iald (n := 4) (f := rowF p h f t oq) (((wSim Z s (toN Z) (toM Z) hA lA oA tA eA (fun j => some (rw j)) (fun j => some (lr j)) fo ft fe dy ca)).length + oq) C iL_law_894 (mid_at (A := (wSim Z s (toN Z) (toM Z) hA lA oA tA eA (fun j => some (rw j)) (fun j => some (lr j)) fo ft fe dy ca)) (M := wRw Z (toN Z) rw p h f t) (B := ((wPl Z L ++ wLr Z (toM Z) lr (toK Z) (toV Z)) ++ w5)) (by simp only [List.append_assoc, List.append_nil, List.nil_append]) (wRw_at (by omega))) (vp_in_nI (n := 2) (by decide) (by decide)) ?_
        refine J_st (.int (cuI (f oq)) :: []) rfl ?_
        by_cases hf0 : f oq = 0
        · refine J_ifge 912 C iL_law_895 rfl (fun h895 => absurd h895 (Int32.not_le.mpr ((cu_neg (by omega)).mpr hf0))) (fun h895 => ?_)
          refine J_aload_n C iL_law_898 rfl rfl ?_
          refine J_iload C iL_law_899 rfl ?_
          obtain ⟨fs30, hf30⟩ := CI.head hC5
          refine J_room (rc2 := 2 + (11 + 1 * (rc + 0))) (rs2 := 12 + (66 + 1 * (rs + 0))) (by omega) (by omega) ?_
          refine J_cVb (As := [.int (nI oq)]) (st := []) (rc2 := 11 + 1 * (rc + 0)) (rs2 := 66 + 1 * (rs + 0)) (w0 := (w5)) (q0 := 0) C iL_law_901 lm_L_144 yc_X8_endCurfew yv_X8_endCurfew (k_endCurfew hl hC5 eq5 ok5 (a := oq) hoq (by simp only [upN, if_true]; omega)) rfl rfl hf30 (((wSim Z s (toN Z) (toM Z) hA lA oA tA eA (fun j => some (rw j)) (fun j => some (lr j)) fo ft fe dy ca ++ wRw Z (toN Z) rw p h f t) ++ wPl Z L) ++ wLr Z (toM Z) lr (toK Z) (toV Z)) [] (by simp only [List.append_assoc, List.append_nil, List.nil_append]) rfl ⟨Nat.le_of_ble_eq_true rfl, Nat.le_of_ble_eq_true rfl⟩ (Nat.le_of_ble_eq_true rfl) rfl rfl ?_
          rintro _ w30 ⟨rfl, hC30⟩
          refine J_st (.int (nI (alN p h (upN (upN (upN f oq (6 + m0)) oq (6 + m1)) oq 0) (upN (upN (upN t oq (6 + m0 + mq - 1)) oq (6 + m1 + mq - 1)) oq 0) (toN Z))) :: []) rfl ?_
          refine J_ws ((((wSim Z s (toN Z) (toM Z) hA lA oA tA eA (fun j => some (rw j)) (fun j => some (lr j)) fo ft fe dy ca ++ wRw Z (toN Z) rw p h f t) ++ wPl Z L) ++ wLr Z (toM Z) lr (toK Z) (toV Z)) ++ w30) (by simp only [List.append_assoc, List.append_nil, List.nil_append]) ?_
          refine J_iload C iL_law_904 rfl ?_
          refine J_icmpeq 933 C iL_law_906 rfl (fun h906 => ?_) (fun h906 => absurd (congrArg nI (by rw [upN_bk2 hf0, upN_bk2 (show t oq = 0 by omega)])) h906)
          have hpF : pF oq = -1 := by rw [(eq0 oq hoq).2.2.1]; exact (by rw [hf0]; rfl)
          have hpT : pT oq = -1 := by rw [(eq0 oq hoq).2.2.2]; exact (by rw [show t oq = 0 by omega]; rfl)
          have hC31 : CI Z x (toN Z) u tm er dy ca pP pH pF pT op f1 f2 l0 hh c0 c1 c2 c3 tb w30 := by have z9 := hC30; rw [upd_back hpF, upd_back hpT] at z9; exact z9
          refine J_aload_n C iL_law_933 rfl rfl ?_
          obtain ⟨fs32, hf32⟩ := CI.head hC31
          refine J_cVb (As := []) (st := []) (rc2 := 11 + 1 * (rc + 0)) (rs2 := 66 + 1 * (rs + 0)) (w0 := (w30)) (q0 := 0) C iL_law_934 lm_L_177 yc_X8_digest yv_X8_digest (k_digest hC31 eq0 ok0) rfl rfl hf32 (((wSim Z s (toN Z) (toM Z) hA lA oA tA eA (fun j => some (rw j)) (fun j => some (lr j)) fo ft fe dy ca ++ wRw Z (toN Z) rw p h f t) ++ wPl Z L) ++ wLr Z (toM Z) lr (toK Z) (toV Z)) [] (by simp only [List.append_assoc, List.append_nil, List.nil_append]) rfl ⟨Nat.le_of_ble_eq_true rfl, Nat.le_of_ble_eq_true rfl⟩ (Nat.le_of_ble_eq_true rfl) (Nat.zero_add _).symm (Nat.zero_add _).symm ?_
          rintro _ w32 ⟨rfl, hC32⟩
          refine J_st (.long (dgCn (toN Z) u dy ca pP pH pF pT) :: []) rfl ?_
          refine J_ws ((((wSim Z s (toN Z) (toM Z) hA lA oA tA eA (fun j => some (rw j)) (fun j => some (lr j)) fo ft fe dy ca ++ wRw Z (toN Z) rw p h f t) ++ wPl Z L) ++ wLr Z (toM Z) lr (toK Z) (toV Z)) ++ w32) (by simp only [List.append_assoc, List.append_nil, List.nil_append]) ?_
          refine J_lload C iL_law_937 rfl ?_
          refine J_lcmp C iL_law_939 ?_
          refine J_ifeqL 945 C iL_law_940 rfl (fun h940 => ?_) (fun h940 => absurd hdg h940)
          refine J_lvm [(13, .int (nI oq)), (9, .int (nI (alN p h f t (toN Z)))), (7, .long dg9), (6, .int x9), (5, .int (nI tm9)), (4, .int (nI (toN Z))), (3, .ref s), (2, .ref t9), (1, .ref (x 0)), (0, .ref (zms Z 3))] rfl ?_
          refine J_room (rc2 := rc) (rs2 := rs) (by omega) (by omega) ?_
          exact next oq hoq w32 hC32
        · refine J_ifge 912 C iL_law_895 rfl (fun h895 => ?_) (fun h895 => absurd (Int32.not_lt.mp (fun q => hf0 ((cu_neg (by omega)).mp q))) h895)
          refine J_aload_n C iL_law_912 rfl rfl ?_
          refine J_iload C iL_law_913 rfl ?_
          refine J_aload C iL_law_915 rfl ?_
          refine J_iconst 2 C iL_law_917 rfl ?_
          refine J_iald (n := 4) (f := rowF p h f t oq) (((wSim Z s (toN Z) (toM Z) hA lA oA tA eA (fun j => some (rw j)) (fun j => some (lr j)) fo ft fe dy ca)).length + oq) C iL_law_918 (mid_at (A := (wSim Z s (toN Z) (toM Z) hA lA oA tA eA (fun j => some (rw j)) (fun j => some (lr j)) fo ft fe dy ca)) (M := wRw Z (toN Z) rw p h f t) (B := ((wPl Z L ++ wLr Z (toM Z) lr (toK Z) (toV Z)) ++ w5)) (by simp only [List.append_assoc, List.append_nil, List.nil_append]) (wRw_at (by omega))) (vp_in_nI (n := 2) (by decide) (by decide)) ?_
          refine J_st (.int (cuI (f oq)) :: .int (nI oq) :: .ref (x 0) :: []) rfl ?_
          refine J_aload C iL_law_919 rfl ?_
          refine J_iconst 3 C iL_law_921 rfl ?_
          refine J_iald (n := 4) (f := rowF p h f t oq) (((wSim Z s (toN Z) (toM Z) hA lA oA tA eA (fun j => some (rw j)) (fun j => some (lr j)) fo ft fe dy ca)).length + oq) C iL_law_922 (mid_at (A := (wSim Z s (toN Z) (toM Z) hA lA oA tA eA (fun j => some (rw j)) (fun j => some (lr j)) fo ft fe dy ca)) (M := wRw Z (toN Z) rw p h f t) (B := ((wPl Z L ++ wLr Z (toM Z) lr (toK Z) (toV Z)) ++ w5)) (by simp only [List.append_assoc, List.append_nil, List.nil_append]) (wRw_at (by omega))) (vp_in_nI (n := 3) (by decide) (by decide)) ?_
          refine J_st (.int (cuI (t oq)) :: .int (cuI (f oq)) :: .int (nI oq) :: .ref (x 0) :: []) rfl ?_
          refine J_st (.int (nI (t oq)) :: .int (nI (f oq)) :: .int (nI oq) :: .ref (x 0) :: []) (by rw [cu_nI hf0, cu_nI (show ¬ t oq = 0 by omega)]) ?_
          obtain ⟨fs33, hf33⟩ := CI.head hC5
          refine J_room (rc2 := 2 + (11 + 1 * (rc + 0))) (rs2 := 12 + (66 + 1 * (rs + 0))) (by omega) (by omega) ?_
          refine J_cVb (As := [.int (nI oq), .int (nI (f oq)), .int (nI (t oq))]) (st := []) (rc2 := 11 + 1 * (rc + 0)) (rs2 := 66 + 1 * (rs + 0)) (w0 := (w5)) (q0 := 0) C iL_law_923 lm_L_137 yc_X8_setCurfew yv_X8_setCurfew (k_setCurfew hl hC5 eq5 ok5 (a := oq) (y := (f oq)) (z := (t oq)) hoq (by omega) (by omega) (by omega)) rfl rfl hf33 (((wSim Z s (toN Z) (toM Z) hA lA oA tA eA (fun j => some (rw j)) (fun j => some (lr j)) fo ft fe dy ca ++ wRw Z (toN Z) rw p h f t) ++ wPl Z L) ++ wLr Z (toM Z) lr (toK Z) (toV Z)) [] (by simp only [List.append_assoc, List.append_nil, List.nil_append]) rfl ⟨Nat.le_of_ble_eq_true rfl, Nat.le_of_ble_eq_true rfl⟩ (Nat.le_of_ble_eq_true rfl) rfl rfl ?_
          rintro _ w33 ⟨rfl, hC33⟩
          refine J_st (.int (nI (alN p h (upN (upN (upN f oq (6 + m0)) oq (6 + m1)) oq (f oq)) (upN (upN (upN t oq (6 + m0 + mq - 1)) oq (6 + m1 + mq - 1)) oq (t oq)) (toN Z))) :: []) rfl ?_
          refine J_ws ((((wSim Z s (toN Z) (toM Z) hA lA oA tA eA (fun j => some (rw j)) (fun j => some (lr j)) fo ft fe dy ca ++ wRw Z (toN Z) rw p h f t) ++ wPl Z L) ++ wLr Z (toM Z) lr (toK Z) (toV Z)) ++ w33) (by simp only [List.append_assoc, List.append_nil, List.nil_append]) ?_
          have eq33 := EqS.upC (a := oq) (x := (f oq)) (y := (t oq)) eq5
          rw [cu_nI (show ¬ (f oq) = 0 by omega), cu_nI (show ¬ (t oq) = 0 by omega)] at eq33
          have ok33 := SnOk.upC (a := oq) (x := (f oq)) (y := (t oq)) ok5 (Or.inr ⟨by omega, by omega, by omega⟩)
          refine J_iload C iL_law_926 rfl ?_
          refine J_icmpeq 933 C iL_law_928 rfl (fun h928 => ?_) (fun h928 => absurd (congrArg nI (by rw [upN_bk2 rfl, upN_bk2 rfl])) h928)
          have hpF : pF oq = nI (f oq) := by rw [(eq0 oq hoq).2.2.1]; exact cu_nI hf0
          have hpT : pT oq = nI (t oq) := by rw [(eq0 oq hoq).2.2.2]; exact cu_nI (by omega)
          have hC34 : CI Z x (toN Z) u tm er dy ca pP pH pF pT op f1 f2 l0 hh c0 c1 c2 c3 tb w33 := by have z9 := hC33; rw [upd_back hpF, upd_back hpT] at z9; exact z9
          refine J_aload_n C iL_law_933 rfl rfl ?_
          obtain ⟨fs35, hf35⟩ := CI.head hC34
          refine J_cVb (As := []) (st := []) (rc2 := 11 + 1 * (rc + 0)) (rs2 := 66 + 1 * (rs + 0)) (w0 := (w33)) (q0 := 0) C iL_law_934 lm_L_177 yc_X8_digest yv_X8_digest (k_digest hC34 eq0 ok0) rfl rfl hf35 (((wSim Z s (toN Z) (toM Z) hA lA oA tA eA (fun j => some (rw j)) (fun j => some (lr j)) fo ft fe dy ca ++ wRw Z (toN Z) rw p h f t) ++ wPl Z L) ++ wLr Z (toM Z) lr (toK Z) (toV Z)) [] (by simp only [List.append_assoc, List.append_nil, List.nil_append]) rfl ⟨Nat.le_of_ble_eq_true rfl, Nat.le_of_ble_eq_true rfl⟩ (Nat.le_of_ble_eq_true rfl) (Nat.zero_add _).symm (Nat.zero_add _).symm ?_
          rintro _ w35 ⟨rfl, hC35⟩
          refine J_st (.long (dgCn (toN Z) u dy ca pP pH pF pT) :: []) rfl ?_
          refine J_ws ((((wSim Z s (toN Z) (toM Z) hA lA oA tA eA (fun j => some (rw j)) (fun j => some (lr j)) fo ft fe dy ca ++ wRw Z (toN Z) rw p h f t) ++ wPl Z L) ++ wLr Z (toM Z) lr (toK Z) (toV Z)) ++ w35) (by simp only [List.append_assoc, List.append_nil, List.nil_append]) ?_
          refine J_lload C iL_law_937 rfl ?_
          refine J_lcmp C iL_law_939 ?_
          refine J_ifeqL 945 C iL_law_940 rfl (fun h940 => ?_) (fun h940 => absurd hdg h940)
          refine J_lvm [(13, .int (nI oq)), (9, .int (nI (alN p h f t (toN Z)))), (7, .long dg9), (6, .int x9), (5, .int (nI tm9)), (4, .int (nI (toN Z))), (3, .ref s), (2, .ref t9), (1, .ref (x 0)), (0, .ref (zms Z 3))] rfl ?_
          refine J_room (rc2 := rc) (rs2 := rs) (by omega) (by omega) ?_
          exact next oq hoq w35 hC35
      · refine J_icmpne 891 C iL_law_879 rfl (fun h879 => ?_) (fun h879 => absurd h879 (fun e => hwo ((nI_eq (by omega) (by omega)).mp e)))
        refine J_aload C iL_law_891 rfl ?_
        refine J_iconst 2 C iL_law_893 rfl ?_
        refine J_iald (n := 4) (f := rowF p h f t oq) (((wSim Z s (toN Z) (toM Z) hA lA oA tA eA (fun j => some (rw j)) (fun j => some (lr j)) fo ft fe dy ca)).length + oq) C iL_law_894 (mid_at (A := (wSim Z s (toN Z) (toM Z) hA lA oA tA eA (fun j => some (rw j)) (fun j => some (lr j)) fo ft fe dy ca)) (M := wRw Z (toN Z) rw p h f t) (B := ((wPl Z L ++ wLr Z (toM Z) lr (toK Z) (toV Z)) ++ w5)) (by simp only [List.append_assoc, List.append_nil, List.nil_append]) (wRw_at (by omega))) (vp_in_nI (n := 2) (by decide) (by decide)) ?_
        refine J_st (.int (cuI (f oq)) :: []) rfl ?_
        by_cases hf0 : f oq = 0
        · refine J_ifge 912 C iL_law_895 rfl (fun h895 => absurd h895 (Int32.not_le.mpr ((cu_neg (by omega)).mpr hf0))) (fun h895 => ?_)
          refine J_aload_n C iL_law_898 rfl rfl ?_
          refine J_iload C iL_law_899 rfl ?_
          obtain ⟨fs36, hf36⟩ := CI.head hC5
          refine J_room (rc2 := 2 + (11 + 1 * (rc + 0))) (rs2 := 12 + (66 + 1 * (rs + 0))) (by omega) (by omega) ?_
          refine J_cVb (As := [.int (nI oq)]) (st := []) (rc2 := 11 + 1 * (rc + 0)) (rs2 := 66 + 1 * (rs + 0)) (w0 := (w5)) (q0 := 0) C iL_law_901 lm_L_144 yc_X8_endCurfew yv_X8_endCurfew (k_endCurfew hl hC5 eq5 ok5 (a := oq) hoq (by simp only [upN, if_true]; omega)) rfl rfl hf36 (((wSim Z s (toN Z) (toM Z) hA lA oA tA eA (fun j => some (rw j)) (fun j => some (lr j)) fo ft fe dy ca ++ wRw Z (toN Z) rw p h f t) ++ wPl Z L) ++ wLr Z (toM Z) lr (toK Z) (toV Z)) [] (by simp only [List.append_assoc, List.append_nil, List.nil_append]) rfl ⟨Nat.le_of_ble_eq_true rfl, Nat.le_of_ble_eq_true rfl⟩ (Nat.le_of_ble_eq_true rfl) rfl rfl ?_
          rintro _ w36 ⟨rfl, hC36⟩
          refine J_st (.int (nI (alN p h (upN (upN (upN f oq (6 + m0)) oq (6 + m1)) oq 0) (upN (upN (upN t oq (6 + m0 + mq - 1)) oq (6 + m1 + mq - 1)) oq 0) (toN Z))) :: []) rfl ?_
          refine J_ws ((((wSim Z s (toN Z) (toM Z) hA lA oA tA eA (fun j => some (rw j)) (fun j => some (lr j)) fo ft fe dy ca ++ wRw Z (toN Z) rw p h f t) ++ wPl Z L) ++ wLr Z (toM Z) lr (toK Z) (toV Z)) ++ w36) (by simp only [List.append_assoc, List.append_nil, List.nil_append]) ?_
          refine J_iload C iL_law_904 rfl ?_
          refine J_icmpeq 933 C iL_law_906 rfl (fun h906 => ?_) (fun h906 => absurd (congrArg nI (by rw [upN_bk2 hf0, upN_bk2 (show t oq = 0 by omega)])) h906)
          have hpF : pF oq = -1 := by rw [(eq0 oq hoq).2.2.1]; exact (by rw [hf0]; rfl)
          have hpT : pT oq = -1 := by rw [(eq0 oq hoq).2.2.2]; exact (by rw [show t oq = 0 by omega]; rfl)
          have hC37 : CI Z x (toN Z) u tm er dy ca pP pH pF pT op f1 f2 l0 hh c0 c1 c2 c3 tb w36 := by have z9 := hC36; rw [upd_back hpF, upd_back hpT] at z9; exact z9
          refine J_aload_n C iL_law_933 rfl rfl ?_
          obtain ⟨fs38, hf38⟩ := CI.head hC37
          refine J_cVb (As := []) (st := []) (rc2 := 11 + 1 * (rc + 0)) (rs2 := 66 + 1 * (rs + 0)) (w0 := (w36)) (q0 := 0) C iL_law_934 lm_L_177 yc_X8_digest yv_X8_digest (k_digest hC37 eq0 ok0) rfl rfl hf38 (((wSim Z s (toN Z) (toM Z) hA lA oA tA eA (fun j => some (rw j)) (fun j => some (lr j)) fo ft fe dy ca ++ wRw Z (toN Z) rw p h f t) ++ wPl Z L) ++ wLr Z (toM Z) lr (toK Z) (toV Z)) [] (by simp only [List.append_assoc, List.append_nil, List.nil_append]) rfl ⟨Nat.le_of_ble_eq_true rfl, Nat.le_of_ble_eq_true rfl⟩ (Nat.le_of_ble_eq_true rfl) (Nat.zero_add _).symm (Nat.zero_add _).symm ?_
          rintro _ w38 ⟨rfl, hC38⟩
          refine J_st (.long (dgCn (toN Z) u dy ca pP pH pF pT) :: []) rfl ?_
          refine J_ws ((((wSim Z s (toN Z) (toM Z) hA lA oA tA eA (fun j => some (rw j)) (fun j => some (lr j)) fo ft fe dy ca ++ wRw Z (toN Z) rw p h f t) ++ wPl Z L) ++ wLr Z (toM Z) lr (toK Z) (toV Z)) ++ w38) (by simp only [List.append_assoc, List.append_nil, List.nil_append]) ?_
          refine J_lload C iL_law_937 rfl ?_
          refine J_lcmp C iL_law_939 ?_
          refine J_ifeqL 945 C iL_law_940 rfl (fun h940 => ?_) (fun h940 => absurd hdg h940)
          refine J_lvm [(13, .int (nI oq)), (9, .int (nI (alN p h f t (toN Z)))), (7, .long dg9), (6, .int x9), (5, .int (nI tm9)), (4, .int (nI (toN Z))), (3, .ref s), (2, .ref t9), (1, .ref (x 0)), (0, .ref (zms Z 3))] rfl ?_
          refine J_room (rc2 := rc) (rs2 := rs) (by omega) (by omega) ?_
          exact next oq hoq w38 hC38
        · refine J_ifge 912 C iL_law_895 rfl (fun h895 => ?_) (fun h895 => absurd (Int32.not_lt.mp (fun q => hf0 ((cu_neg (by omega)).mp q))) h895)
          refine J_aload_n C iL_law_912 rfl rfl ?_
          refine J_iload C iL_law_913 rfl ?_
          refine J_aload C iL_law_915 rfl ?_
          refine J_iconst 2 C iL_law_917 rfl ?_
          refine J_iald (n := 4) (f := rowF p h f t oq) (((wSim Z s (toN Z) (toM Z) hA lA oA tA eA (fun j => some (rw j)) (fun j => some (lr j)) fo ft fe dy ca)).length + oq) C iL_law_918 (mid_at (A := (wSim Z s (toN Z) (toM Z) hA lA oA tA eA (fun j => some (rw j)) (fun j => some (lr j)) fo ft fe dy ca)) (M := wRw Z (toN Z) rw p h f t) (B := ((wPl Z L ++ wLr Z (toM Z) lr (toK Z) (toV Z)) ++ w5)) (by simp only [List.append_assoc, List.append_nil, List.nil_append]) (wRw_at (by omega))) (vp_in_nI (n := 2) (by decide) (by decide)) ?_
          refine J_st (.int (cuI (f oq)) :: .int (nI oq) :: .ref (x 0) :: []) rfl ?_
          refine J_aload C iL_law_919 rfl ?_
          refine J_iconst 3 C iL_law_921 rfl ?_
          refine J_iald (n := 4) (f := rowF p h f t oq) (((wSim Z s (toN Z) (toM Z) hA lA oA tA eA (fun j => some (rw j)) (fun j => some (lr j)) fo ft fe dy ca)).length + oq) C iL_law_922 (mid_at (A := (wSim Z s (toN Z) (toM Z) hA lA oA tA eA (fun j => some (rw j)) (fun j => some (lr j)) fo ft fe dy ca)) (M := wRw Z (toN Z) rw p h f t) (B := ((wPl Z L ++ wLr Z (toM Z) lr (toK Z) (toV Z)) ++ w5)) (by simp only [List.append_assoc, List.append_nil, List.nil_append]) (wRw_at (by omega))) (vp_in_nI (n := 3) (by decide) (by decide)) ?_
          refine J_st (.int (cuI (t oq)) :: .int (cuI (f oq)) :: .int (nI oq) :: .ref (x 0) :: []) rfl ?_
          refine J_st (.int (nI (t oq)) :: .int (nI (f oq)) :: .int (nI oq) :: .ref (x 0) :: []) (by rw [cu_nI hf0, cu_nI (show ¬ t oq = 0 by omega)]) ?_
          obtain ⟨fs39, hf39⟩ := CI.head hC5
          refine J_room (rc2 := 2 + (11 + 1 * (rc + 0))) (rs2 := 12 + (66 + 1 * (rs + 0))) (by omega) (by omega) ?_
          refine J_cVb (As := [.int (nI oq), .int (nI (f oq)), .int (nI (t oq))]) (st := []) (rc2 := 11 + 1 * (rc + 0)) (rs2 := 66 + 1 * (rs + 0)) (w0 := (w5)) (q0 := 0) C iL_law_923 lm_L_137 yc_X8_setCurfew yv_X8_setCurfew (k_setCurfew hl hC5 eq5 ok5 (a := oq) (y := (f oq)) (z := (t oq)) hoq (by omega) (by omega) (by omega)) rfl rfl hf39 (((wSim Z s (toN Z) (toM Z) hA lA oA tA eA (fun j => some (rw j)) (fun j => some (lr j)) fo ft fe dy ca ++ wRw Z (toN Z) rw p h f t) ++ wPl Z L) ++ wLr Z (toM Z) lr (toK Z) (toV Z)) [] (by simp only [List.append_assoc, List.append_nil, List.nil_append]) rfl ⟨Nat.le_of_ble_eq_true rfl, Nat.le_of_ble_eq_true rfl⟩ (Nat.le_of_ble_eq_true rfl) rfl rfl ?_
          rintro _ w39 ⟨rfl, hC39⟩
          refine J_st (.int (nI (alN p h (upN (upN (upN f oq (6 + m0)) oq (6 + m1)) oq (f oq)) (upN (upN (upN t oq (6 + m0 + mq - 1)) oq (6 + m1 + mq - 1)) oq (t oq)) (toN Z))) :: []) rfl ?_
          refine J_ws ((((wSim Z s (toN Z) (toM Z) hA lA oA tA eA (fun j => some (rw j)) (fun j => some (lr j)) fo ft fe dy ca ++ wRw Z (toN Z) rw p h f t) ++ wPl Z L) ++ wLr Z (toM Z) lr (toK Z) (toV Z)) ++ w39) (by simp only [List.append_assoc, List.append_nil, List.nil_append]) ?_
          have eq39 := EqS.upC (a := oq) (x := (f oq)) (y := (t oq)) eq5
          rw [cu_nI (show ¬ (f oq) = 0 by omega), cu_nI (show ¬ (t oq) = 0 by omega)] at eq39
          have ok39 := SnOk.upC (a := oq) (x := (f oq)) (y := (t oq)) ok5 (Or.inr ⟨by omega, by omega, by omega⟩)
          refine J_iload C iL_law_926 rfl ?_
          refine J_icmpeq 933 C iL_law_928 rfl (fun h928 => ?_) (fun h928 => absurd (congrArg nI (by rw [upN_bk2 rfl, upN_bk2 rfl])) h928)
          have hpF : pF oq = nI (f oq) := by rw [(eq0 oq hoq).2.2.1]; exact cu_nI hf0
          have hpT : pT oq = nI (t oq) := by rw [(eq0 oq hoq).2.2.2]; exact cu_nI (by omega)
          have hC40 : CI Z x (toN Z) u tm er dy ca pP pH pF pT op f1 f2 l0 hh c0 c1 c2 c3 tb w39 := by have z9 := hC39; rw [upd_back hpF, upd_back hpT] at z9; exact z9
          refine J_aload_n C iL_law_933 rfl rfl ?_
          obtain ⟨fs41, hf41⟩ := CI.head hC40
          refine J_cVb (As := []) (st := []) (rc2 := 11 + 1 * (rc + 0)) (rs2 := 66 + 1 * (rs + 0)) (w0 := (w39)) (q0 := 0) C iL_law_934 lm_L_177 yc_X8_digest yv_X8_digest (k_digest hC40 eq0 ok0) rfl rfl hf41 (((wSim Z s (toN Z) (toM Z) hA lA oA tA eA (fun j => some (rw j)) (fun j => some (lr j)) fo ft fe dy ca ++ wRw Z (toN Z) rw p h f t) ++ wPl Z L) ++ wLr Z (toM Z) lr (toK Z) (toV Z)) [] (by simp only [List.append_assoc, List.append_nil, List.nil_append]) rfl ⟨Nat.le_of_ble_eq_true rfl, Nat.le_of_ble_eq_true rfl⟩ (Nat.le_of_ble_eq_true rfl) (Nat.zero_add _).symm (Nat.zero_add _).symm ?_
          rintro _ w41 ⟨rfl, hC41⟩
          refine J_st (.long (dgCn (toN Z) u dy ca pP pH pF pT) :: []) rfl ?_
          refine J_ws ((((wSim Z s (toN Z) (toM Z) hA lA oA tA eA (fun j => some (rw j)) (fun j => some (lr j)) fo ft fe dy ca ++ wRw Z (toN Z) rw p h f t) ++ wPl Z L) ++ wLr Z (toM Z) lr (toK Z) (toV Z)) ++ w41) (by simp only [List.append_assoc, List.append_nil, List.nil_append]) ?_
          refine J_lload C iL_law_937 rfl ?_
          refine J_lcmp C iL_law_939 ?_
          refine J_ifeqL 945 C iL_law_940 rfl (fun h940 => ?_) (fun h940 => absurd hdg h940)
          refine J_lvm [(13, .int (nI oq)), (9, .int (nI (alN p h f t (toN Z)))), (7, .long dg9), (6, .int x9), (5, .int (nI tm9)), (4, .int (nI (toN Z))), (3, .ref s), (2, .ref t9), (1, .ref (x 0)), (0, .ref (zms Z 3))] rfl ?_
          refine J_room (rc2 := rc) (rs2 := rs) (by omega) (by omega) ?_
          exact next oq hoq w41 hC41

