set_option maxRecDepth 100000 in
set_option maxHeartbeats 4000000 in
theorem c_X9_isSame {Z : GZ} {l : Launch} (hl : l.stackTraces = false) {x : Nat → Nat} {u tm : Nat} {er : Int32} {pP pH pF pT op f1 f2 l0 tb : Nat → Int32} {hh c0 c1 c2 c3 : Nat → Nat} {s hA lA oA tA eA : Nat} {rw lr p h f t : Nat → Nat} {fo ft fe : Nat → Option Nat} {L : List TC} {dy ca : Int32} {wc : va_W} (hC : CI Z x (toN Z) u tm er dy ca pP pH pF pT op f1 f2 l0 hh c0 c1 c2 c3 tb wc) (eq0 : EqS (toN Z) pP pH pF pT p h f t) (ok0 : SnOk (toN Z) p h f t) (hu : u = toM Z) : Ct Z l yX9_isSame cX9_isSame 12 (some .boolean) (rmM 20 4700 28000) [.ref s, .ref (x 0)] ((((wSim Z s (toN Z) (toM Z) hA lA oA tA eA (fun j => some (rw j)) (fun j => some (lr j)) fo ft fe dy ca ++ wRw Z (toN Z) rw p h f t) ++ wPl Z L) ++ wLr Z (toM Z) lr (toK Z) (toV Z)) ++ wc) (fun v9 w => v9 = some (.int 1)) := by
  refine Ct.ofJ (own := RX9) (nm := "isSame") (lv0 := [(0, .ref s), (1, .ref (x 0))]) (by decide) rfl rfl (Nat.le_of_ble_eq_true rfl) rfl (fun X hXl C E => ?_)
  subst hXl
  refine J_room (rc2 := 4700) (rs2 := 28000) (Nat.le_refl _) (Nat.le_refl _) ?_
  have hto := toN_in Z
  have htm := toM_in Z
  have hn0 : ¬ nI (toN Z) = 0 := fun e => absurd ((nI_eq (b := 0) (by omega) (by decide)).mp e) (by omega)
  refine J_aload_n C iX9_isSame_0 rfl rfl ?_
  refine J_get (.ref hA) 0 C iX9_isSame_1 gf_X9_9 rfl rfl ?_
  refine J_alenN (t0 := 6) 1 C iX9_isSame_4 rfl rfl ?_
  refine J_istore_n [(2, .int (nI (toN Z))), (0, .ref s), (1, .ref (x 0))] C iX9_isSame_5 rfl (by decide) rfl ?_
  refine J_aload_n C iX9_isSame_6 rfl rfl ?_
  obtain ⟨fs1, hf1⟩ := CI.head hC
  refine J_cVb (As := []) (st := []) (rc2 := 4700) (rs2 := 28000) (w0 := (wc)) (q0 := 0) C iX9_isSame_7 lm_X9_71 yc_X8_houses yv_X8_houses (k_houses hC eq0 ok0) rfl rfl hf1 (((wSim Z s (toN Z) (toM Z) hA lA oA tA eA (fun j => some (rw j)) (fun j => some (lr j)) fo ft fe dy ca ++ wRw Z (toN Z) rw p h f t) ++ wPl Z L) ++ wLr Z (toM Z) lr (toK Z) (toV Z)) [] (by simp only [List.append_assoc, List.append_nil, List.nil_append]) rfl ⟨Nat.le_of_ble_eq_true rfl, Nat.le_of_ble_eq_true rfl⟩ (Nat.le_of_ble_eq_true rfl) (Nat.zero_add _).symm (Nat.zero_add _).symm ?_
  rintro _ w1 ⟨rfl, hC1⟩
  refine J_st (.int (nI (toN Z)) :: []) rfl ?_
  refine J_ws ((((wSim Z s (toN Z) (toM Z) hA lA oA tA eA (fun j => some (rw j)) (fun j => some (lr j)) fo ft fe dy ca ++ wRw Z (toN Z) rw p h f t) ++ wPl Z L) ++ wLr Z (toM Z) lr (toK Z) (toV Z)) ++ w1) (by simp only [List.append_assoc, List.append_nil, List.nil_append]) ?_
  refine J_iload_n C iX9_isSame_10 rfl rfl ?_
  refine J_icmpne 83 C iX9_isSame_11 rfl (fun h11 => absurd rfl h11) (fun h11 => ?_)
  refine J_aload_n C iX9_isSame_14 rfl rfl ?_
  obtain ⟨fs2, hf2⟩ := CI.head hC1
  refine J_cVb (As := []) (st := []) (rc2 := 4700) (rs2 := 28000) (w0 := (w1)) (q0 := 0) C iX9_isSame_15 lm_X9_76 yc_X8_laws yv_X8_laws (k_laws hC1 eq0 ok0) rfl rfl hf2 (((wSim Z s (toN Z) (toM Z) hA lA oA tA eA (fun j => some (rw j)) (fun j => some (lr j)) fo ft fe dy ca ++ wRw Z (toN Z) rw p h f t) ++ wPl Z L) ++ wLr Z (toM Z) lr (toK Z) (toV Z)) [] (by simp only [List.append_assoc, List.append_nil, List.nil_append]) rfl ⟨Nat.le_of_ble_eq_true rfl, Nat.le_of_ble_eq_true rfl⟩ (Nat.le_of_ble_eq_true rfl) (Nat.zero_add _).symm (Nat.zero_add _).symm ?_
  rintro _ w2 ⟨rfl, hC2⟩
  refine J_st (.int (nI u) :: []) rfl ?_
  refine J_ws ((((wSim Z s (toN Z) (toM Z) hA lA oA tA eA (fun j => some (rw j)) (fun j => some (lr j)) fo ft fe dy ca ++ wRw Z (toN Z) rw p h f t) ++ wPl Z L) ++ wLr Z (toM Z) lr (toK Z) (toV Z)) ++ w2) (by simp only [List.append_assoc, List.append_nil, List.nil_append]) ?_
  refine J_aload_n C iX9_isSame_18 rfl rfl ?_
  refine J_get (.ref lA) 0 C iX9_isSame_19 gf_X9_15 rfl rfl ?_
  refine J_alenN (t0 := 6) 2 C iX9_isSame_22 rfl rfl ?_
  refine J_icmpne 83 C iX9_isSame_23 rfl (fun h23 => absurd (show nI u = nI (toM Z) by rw [hu]) h23) (fun h23 => ?_)
  refine J_aload_n C iX9_isSame_26 rfl rfl ?_
  obtain ⟨fs3, hf3⟩ := CI.head hC2
  refine J_cVb (As := []) (st := []) (rc2 := 4700) (rs2 := 28000) (w0 := (w2)) (q0 := 0) C iX9_isSame_27 lm_X9_78 yc_X8_days yv_X8_days (k_days hC2 eq0 ok0) rfl rfl hf3 (((wSim Z s (toN Z) (toM Z) hA lA oA tA eA (fun j => some (rw j)) (fun j => some (lr j)) fo ft fe dy ca ++ wRw Z (toN Z) rw p h f t) ++ wPl Z L) ++ wLr Z (toM Z) lr (toK Z) (toV Z)) [] (by simp only [List.append_assoc, List.append_nil, List.nil_append]) rfl ⟨Nat.le_of_ble_eq_true rfl, Nat.le_of_ble_eq_true rfl⟩ (Nat.le_of_ble_eq_true rfl) (Nat.zero_add _).symm (Nat.zero_add _).symm ?_
  rintro _ w3 ⟨rfl, hC3⟩
  refine J_st (.int dy :: []) rfl ?_
  refine J_ws ((((wSim Z s (toN Z) (toM Z) hA lA oA tA eA (fun j => some (rw j)) (fun j => some (lr j)) fo ft fe dy ca ++ wRw Z (toN Z) rw p h f t) ++ wPl Z L) ++ wLr Z (toM Z) lr (toK Z) (toV Z)) ++ w3) (by simp only [List.append_assoc, List.append_nil, List.nil_append]) ?_
  refine J_aload_n C iX9_isSame_30 rfl rfl ?_
  refine J_get (.int dy) 0 C iX9_isSame_31 gf_X9_35 rfl rfl ?_
  refine J_icmpne 83 C iX9_isSame_34 rfl (fun h34 => absurd rfl h34) (fun h34 => ?_)
  refine J_aload_n C iX9_isSame_37 rfl rfl ?_
  obtain ⟨fs4, hf4⟩ := CI.head hC3
  refine J_cVb (As := []) (st := []) (rc2 := 4700) (rs2 := 28000) (w0 := (w3)) (q0 := 0) C iX9_isSame_38 lm_X9_80 yc_X8_lawsCarriedOut yv_X8_lawsCarriedOut (k_lawsCarriedOut hC3 eq0 ok0) rfl rfl hf4 (((wSim Z s (toN Z) (toM Z) hA lA oA tA eA (fun j => some (rw j)) (fun j => some (lr j)) fo ft fe dy ca ++ wRw Z (toN Z) rw p h f t) ++ wPl Z L) ++ wLr Z (toM Z) lr (toK Z) (toV Z)) [] (by simp only [List.append_assoc, List.append_nil, List.nil_append]) rfl ⟨Nat.le_of_ble_eq_true rfl, Nat.le_of_ble_eq_true rfl⟩ (Nat.le_of_ble_eq_true rfl) (Nat.zero_add _).symm (Nat.zero_add _).symm ?_
  rintro _ w4 ⟨rfl, hC4⟩
  refine J_st (.int ca :: []) rfl ?_
  refine J_ws ((((wSim Z s (toN Z) (toM Z) hA lA oA tA eA (fun j => some (rw j)) (fun j => some (lr j)) fo ft fe dy ca ++ wRw Z (toN Z) rw p h f t) ++ wPl Z L) ++ wLr Z (toM Z) lr (toK Z) (toV Z)) ++ w4) (by simp only [List.append_assoc, List.append_nil, List.nil_append]) ?_
  refine J_aload_n C iX9_isSame_41 rfl rfl ?_
  refine J_get (.int ca) 0 C iX9_isSame_42 gf_X9_39 rfl rfl ?_
  refine J_icmpne 83 C iX9_isSame_45 rfl (fun h45 => absurd rfl h45) (fun h45 => ?_)
  refine J_aload_n C iX9_isSame_48 rfl rfl ?_
  obtain ⟨fs5, hf5⟩ := CI.head hC4
  refine J_cVb (As := []) (st := []) (rc2 := 4700) (rs2 := 28000) (w0 := (w4)) (q0 := 0) C iX9_isSame_49 lm_X9_83 yc_X8_allHoursLost yv_X8_allHoursLost (k_allHoursLost hC4 eq0 ok0) rfl rfl hf5 (((wSim Z s (toN Z) (toM Z) hA lA oA tA eA (fun j => some (rw j)) (fun j => some (lr j)) fo ft fe dy ca ++ wRw Z (toN Z) rw p h f t) ++ wPl Z L) ++ wLr Z (toM Z) lr (toK Z) (toV Z)) [] (by simp only [List.append_assoc, List.append_nil, List.nil_append]) rfl ⟨Nat.le_of_ble_eq_true rfl, Nat.le_of_ble_eq_true rfl⟩ (Nat.le_of_ble_eq_true rfl) (Nat.zero_add _).symm (Nat.zero_add _).symm ?_
  rintro _ w5 ⟨rfl, hC5⟩
  refine J_st (.int (nI (alN p h f t (toN Z))) :: []) rfl ?_
  refine J_ws ((((wSim Z s (toN Z) (toM Z) hA lA oA tA eA (fun j => some (rw j)) (fun j => some (lr j)) fo ft fe dy ca ++ wRw Z (toN Z) rw p h f t) ++ wPl Z L) ++ wLr Z (toM Z) lr (toK Z) (toV Z)) ++ w5) (by simp only [List.append_assoc, List.append_nil, List.nil_append]) ?_
  refine J_aload_n C iX9_isSame_52 rfl rfl ?_
  refine J_cVb (As := []) (st := .int (nI (alN p h f t (toN Z))) :: []) (rc2 := 4700) (rs2 := 28000) (w0 := (wSim Z s (toN Z) (toM Z) hA lA oA tA eA (fun j => some (rw j)) (fun j => some (lr j)) fo ft fe dy ca ++ wRw Z (toN Z) rw p h f t)) (q0 := 0) C iX9_isSame_53 lm_X9_86 yc_X9_all yv_X9_all (c_X9_all ok0) rfl rfl rfl [] ((wPl Z L ++ wLr Z (toM Z) lr (toK Z) (toV Z)) ++ w5) (by simp only [List.append_assoc, List.append_nil, List.nil_append]) rfl ⟨Nat.le_of_ble_eq_true rfl, Nat.le_of_ble_eq_true rfl⟩ (Nat.le_of_ble_eq_true rfl) (Nat.zero_add _).symm (Nat.zero_add _).symm ?_
  rintro _ _ ⟨rfl, rfl⟩
  refine J_st (.int (nI (alN p h f t (toN Z))) :: .int (nI (alN p h f t (toN Z))) :: []) rfl ?_
  refine J_ws ((((wSim Z s (toN Z) (toM Z) hA lA oA tA eA (fun j => some (rw j)) (fun j => some (lr j)) fo ft fe dy ca ++ wRw Z (toN Z) rw p h f t) ++ wPl Z L) ++ wLr Z (toM Z) lr (toK Z) (toV Z)) ++ w5) (by simp only [List.append_assoc, List.append_nil, List.nil_append]) ?_
  refine J_icmpne 83 C iX9_isSame_56 rfl (fun h56 => absurd rfl h56) (fun h56 => ?_)
  refine J_aload_n C iX9_isSame_59 rfl rfl ?_
  obtain ⟨fs6, hf6⟩ := CI.head hC5
  refine J_cVb (As := []) (st := []) (rc2 := 4700) (rs2 := 28000) (w0 := (w5)) (q0 := 0) C iX9_isSame_60 lm_X9_89 yc_X8_meanLost yv_X8_meanLost (n_X8_meanLost hC5) rfl rfl hf6 (((wSim Z s (toN Z) (toM Z) hA lA oA tA eA (fun j => some (rw j)) (fun j => some (lr j)) fo ft fe dy ca ++ wRw Z (toN Z) rw p h f t) ++ wPl Z L) ++ wLr Z (toM Z) lr (toK Z) (toV Z)) [] (by simp only [List.append_assoc, List.append_nil, List.nil_append]) rfl ⟨Nat.le_of_ble_eq_true rfl, Nat.le_of_ble_eq_true rfl⟩ (Nat.le_of_ble_eq_true rfl) (Nat.zero_add _).symm (Nat.zero_add _).symm ?_
  rintro _ w6 ⟨rfl, hC6⟩
  refine J_st (.double (mlX (toN Z) (laG (toN Z) pP pH pF pT)) :: []) rfl ?_
  refine J_ws ((((wSim Z s (toN Z) (toM Z) hA lA oA tA eA (fun j => some (rw j)) (fun j => some (lr j)) fo ft fe dy ca ++ wRw Z (toN Z) rw p h f t) ++ wPl Z L) ++ wLr Z (toM Z) lr (toK Z) (toV Z)) ++ w6) (by simp only [List.append_assoc, List.append_nil, List.nil_append]) ?_
  refine J_iload_n C iX9_isSame_63 rfl rfl ?_
  refine J_ifne 71 C iX9_isSame_64 rfl (fun h64 => ?_) (fun h64 => absurd h64 hn0)
  refine J_aload_n C iX9_isSame_71 rfl rfl ?_
  refine J_cVb (As := []) (st := .double (mlX (toN Z) (laG (toN Z) pP pH pF pT)) :: []) (rc2 := 4700) (rs2 := 28000) (w0 := (wSim Z s (toN Z) (toM Z) hA lA oA tA eA (fun j => some (rw j)) (fun j => some (lr j)) fo ft fe dy ca ++ wRw Z (toN Z) rw p h f t)) (q0 := 0) C iX9_isSame_72 lm_X9_86 yc_X9_all yv_X9_all (c_X9_all ok0) rfl rfl rfl [] ((wPl Z L ++ wLr Z (toM Z) lr (toK Z) (toV Z)) ++ w6) (by simp only [List.append_assoc, List.append_nil, List.nil_append]) rfl ⟨Nat.le_of_ble_eq_true rfl, Nat.le_of_ble_eq_true rfl⟩ (Nat.le_of_ble_eq_true rfl) (Nat.zero_add _).symm (Nat.zero_add _).symm ?_
  rintro _ _ ⟨rfl, rfl⟩
  refine J_st (.int (nI (alN p h f t (toN Z))) :: .double (mlX (toN Z) (laG (toN Z) pP pH pF pT)) :: []) rfl ?_
  refine J_ws ((((wSim Z s (toN Z) (toM Z) hA lA oA tA eA (fun j => some (rw j)) (fun j => some (lr j)) fo ft fe dy ca ++ wRw Z (toN Z) rw p h f t) ++ wPl Z L) ++ wLr Z (toM Z) lr (toK Z) (toV Z)) ++ w6) (by simp only [List.append_assoc, List.append_nil, List.nil_append]) ?_
  refine J_i2d C iX9_isSame_75 ?_
  refine J_iload_n C iX9_isSame_76 rfl rfl ?_
  refine J_i2d C iX9_isSame_77 ?_
  refine J_ddiv C iX9_isSame_78 (dm_ok2 (N := toN Z) (t := alN p h f t (toN Z)) (by omega) hn0 (by have := alN_le p h f t (n := toN Z) (by omega); omega)) ?_
  have e9 : mlX (toN Z) (laG (toN Z) pP pH pF pT) = FP.ddiv (FP.i2d (nI (alN p h f t (toN Z)))) (FP.i2d (nI (toN Z))) := by rw [mlX, if_neg hn0, al_b eq0 ok0]
  rw [e9]
  have hm9 := (dc_ok (N := toN Z) (t := alN p h f t (toN Z)) (by omega) hn0 (by have := alN_le p h f t (n := toN Z) (by omega); omega))
  generalize FP.ddiv (FP.i2d (nI (alN p h f t (toN Z)))) (FP.i2d (nI (toN Z))) = mm9 at hm9 ⊢
  refine J_dcmp C iX9_isSame_79 ?_
  refine J_ifeq 85 C iX9_isSame_80 rfl (fun h80 => ?_) (fun h80 => absurd hm9 h80)
  refine J_iconst 0 C iX9_isSame_85 rfl ?_
  refine J_istore_n [(3, .int 0), (2, .int (nI (toN Z))), (0, .ref s), (1, .ref (x 0))] C iX9_isSame_86 rfl (by decide) rfl ?_
  refine J_iconst (-1) C iX9_isSame_87 rfl ?_
  refine J_istore [(4, .int (-1)), (3, .int 0), (2, .int (nI (toN Z))), (0, .ref s), (1, .ref (x 0))] C iX9_isSame_88 (by decide) rfl ?_
  refine J_iconst (-1) C iX9_isSame_90 rfl ?_
  refine J_istore [(5, .int (-1)), (4, .int (-1)), (3, .int 0), (2, .int (nI (toN Z))), (0, .ref s), (1, .ref (x 0))] C iX9_isSame_91 (by decide) rfl ?_
  refine J_bipush 24 C iX9_isSame_93 rfl ?_
  refine J_room (rc2 := 1 + 4699) (rs2 := 24 + 27976) (by omega) (by omega) ?_
  refine J_newI 24 C iX9_isSame_95 (tsg_in (i := 132) (by decide +kernel) rfl) (by decide) rfl (by omega) (fun n1 => ?_)
  refine J_ws (((((wSim Z s (toN Z) (toM Z) hA lA oA tA eA (fun j => some (rw j)) (fun j => some (lr j)) fo ft fe dy ca ++ wRw Z (toN Z) rw p h f t) ++ wPl Z L) ++ wLr Z (toM Z) lr (toK Z) (toV Z)) ++ w6) ++ arrI Z n1 24 (fun _ => 0)) rfl ?_
  refine J_perm (((((wSim Z s (toN Z) (toM Z) hA lA oA tA eA (fun j => some (rw j)) (fun j => some (lr j)) fo ft fe dy ca ++ wRw Z (toN Z) rw p h f t) ++ wPl Z L) ++ wLr Z (toM Z) lr (toK Z) (toV Z)) ++ arrI Z n1 24 (fun _ => 0)) ++ w6) (sw2 _ _ _) ?_
  refine J_perm (((((wSim Z s (toN Z) (toM Z) hA lA oA tA eA (fun j => some (rw j)) (fun j => some (lr j)) fo ft fe dy ca ++ wRw Z (toN Z) rw p h f t) ++ wPl Z L) ++ arrI Z n1 24 (fun _ => 0)) ++ wLr Z (toM Z) lr (toK Z) (toV Z)) ++ w6) ((sw2 _ _ _).append_right _) ?_
  refine J_perm (((((wSim Z s (toN Z) (toM Z) hA lA oA tA eA (fun j => some (rw j)) (fun j => some (lr j)) fo ft fe dy ca ++ wRw Z (toN Z) rw p h f t) ++ arrI Z n1 24 (fun _ => 0)) ++ wPl Z L) ++ wLr Z (toM Z) lr (toK Z) (toV Z)) ++ w6) (((sw2 _ _ _).append_right _).append_right _) ?_
  refine J_perm (((((wSim Z s (toN Z) (toM Z) hA lA oA tA eA (fun j => some (rw j)) (fun j => some (lr j)) fo ft fe dy ca ++ arrI Z n1 24 (fun _ => 0)) ++ wRw Z (toN Z) rw p h f t) ++ wPl Z L) ++ wLr Z (toM Z) lr (toK Z) (toV Z)) ++ w6) ((((sw2 _ _ _).append_right _).append_right _).append_right _) ?_
  refine J_perm (((((arrI Z n1 24 (fun _ => 0) ++ wSim Z s (toN Z) (toM Z) hA lA oA tA eA (fun j => some (rw j)) (fun j => some (lr j)) fo ft fe dy ca) ++ wRw Z (toN Z) rw p h f t) ++ wPl Z L) ++ wLr Z (toM Z) lr (toK Z) (toV Z)) ++ w6) ((((List.perm_append_comm.append_right _).append_right _).append_right _).append_right _) ?_
  refine J_astore [(6, .ref n1), (5, .int (-1)), (4, .int (-1)), (3, .int 0), (2, .int (nI (toN Z))), (0, .ref s), (1, .ref (x 0))] C iX9_isSame_97 (by decide) rfl ?_
  refine J_iload_n C iX9_isSame_99 rfl rfl ?_
  refine J_iconst 1 C iX9_isSame_100 rfl ?_
  refine J_isub C iX9_isSame_101 ?_
  rw [dn_0 (by omega)]
  refine J_istore [(7, .int (dnI (toN Z) 0)), (6, .ref n1), (5, .int (-1)), (4, .int (-1)), (3, .int 0), (2, .int (nI (toN Z))), (0, .ref s), (1, .ref (x 0))] C iX9_isSame_102 (by decide) rfl ?_
  refine J_room (rc2 := 50 + 500 * (9 - 0)) (rs2 := 300 + 3000 * (9 - 0)) (by omega) (by omega) ?_
  refine J_lvm [(7, .int (dnI (toN Z) 0)), (6, .ref n1), (5, .int (opI (wrD (fun a => caN p h f t (toN Z) a) (toN Z) 0))), (4, .int (opI (wrD (fun a => loN p h f t (toN Z) a) (toN Z) 0))), (3, .int (nI (ctD (fun a => decide (loN p h f t (toN Z) a = 0)) (toN Z) 0))), (2, .int (nI (toN Z))), (1, .ref (x 0)), (0, .ref s)] (by rfl) ?_
  refine J_ws (((((arrI Z n1 24 (fun i => nI (ctD ((fun k a => dkN p h f t (toN Z) a k) i) (toN Z) 0)) ++ wSim Z s (toN Z) (toM Z) hA lA oA tA eA (fun j => some (rw j)) (fun j => some (lr j)) fo ft fe dy ca) ++ wRw Z (toN Z) rw p h f t) ++ wPl Z L) ++ wLr Z (toM Z) lr (toK Z) (toV Z)) ++ w6) rfl ?_
  refine J_forR (σ := va_W) (fun k => 50 + 500 * (9 - k)) (fun k => 300 + 3000 * (9 - k)) (fun k q9 => [(7, .int (dnI (toN Z) k)), (6, .ref n1), (5, .int (opI (wrD (fun a => caN p h f t (toN Z) a) (toN Z) k))), (4, .int (opI (wrD (fun a => loN p h f t (toN Z) a) (toN Z) k))), (3, .int (nI (ctD (fun a => decide (loN p h f t (toN Z) a = 0)) (toN Z) k))), (2, .int (nI (toN Z))), (1, .ref (x 0)), (0, .ref s)]) (fun k q9 => (((((arrI Z n1 24 (fun i => nI (ctD ((fun k a => dkN p h f t (toN Z) a k) i) (toN Z) k)) ++ wSim Z s (toN Z) (toM Z) hA lA oA tA eA (fun j => some (rw j)) (fun j => some (lr j)) fo ft fe dy ca) ++ wRw Z (toN Z) rw p h f t) ++ wPl Z L) ++ wLr Z (toM Z) lr (toK Z) (toV Z)) ++ q9)) (fun k q9 => CI Z x (toN Z) u tm er dy ca pP pH pF pT op f1 f2 l0 hh c0 c1 c2 c3 tb q9) (toN Z) 0 (w6) (by omega) hC6 ?_ ?_
  · rintro wv1 hI
    refine J_room (rc2 := 50) (rs2 := 300) (by omega) (by omega) ?_
    refine J_iload C iX9_isSame_104 rfl ?_
    refine J_iflt 506 C iX9_isSame_106 rfl (fun h106 => ?_) (fun h106 => absurd (by rw [dn_out]; decide) h106)
    refine J_iconst 0 C iX9_isSame_506 rfl ?_
    refine J_istore [(7, .int 0), (6, .ref n1), (5, .int (opI (wrD (fun a => caN p h f t (toN Z) a) (toN Z) (toN Z)))), (4, .int (opI (wrD (fun a => loN p h f t (toN Z) a) (toN Z) (toN Z)))), (3, .int (nI (ctD (fun a => decide (loN p h f t (toN Z) a = 0)) (toN Z) (toN Z)))), (2, .int (nI (toN Z))), (1, .ref (x 0)), (0, .ref s)] C iX9_isSame_507 (by decide) rfl ?_
    refine J_room (rc2 := 1 * (24 - 0) + 6) (rs2 := 6 * (24 - 0) + 36) (by omega) (by omega) ?_
    refine J_lvm [(7, .int (nI 0)), (6, .ref n1), (5, .int (opI (wrD (fun a => caN p h f t (toN Z) a) (toN Z) (toN Z)))), (4, .int (opI (wrD (fun a => loN p h f t (toN Z) a) (toN Z) (toN Z)))), (3, .int (nI (ctD (fun a => decide (loN p h f t (toN Z) a = 0)) (toN Z) (toN Z)))), (2, .int (nI (toN Z))), (1, .ref (x 0)), (0, .ref s)] (by rfl) ?_
    refine J_forR (σ := va_W) (fun q => 1 * (24 - q) + 6) (fun q => 6 * (24 - q) + 36) (fun q q9 => [(7, .int (nI q)), (6, .ref n1), (5, .int (opI (wrD (fun a => caN p h f t (toN Z) a) (toN Z) (toN Z)))), (4, .int (opI (wrD (fun a => loN p h f t (toN Z) a) (toN Z) (toN Z)))), (3, .int (nI (ctD (fun a => decide (loN p h f t (toN Z) a = 0)) (toN Z) (toN Z)))), (2, .int (nI (toN Z))), (1, .ref (x 0)), (0, .ref s)]) (fun q q9 => (((((arrI Z n1 24 (fun i => nI (ctD ((fun k a => dkN p h f t (toN Z) a k) i) (toN Z) (toN Z))) ++ wSim Z s (toN Z) (toM Z) hA lA oA tA eA (fun j => some (rw j)) (fun j => some (lr j)) fo ft fe dy ca) ++ wRw Z (toN Z) rw p h f t) ++ wPl Z L) ++ wLr Z (toM Z) lr (toK Z) (toV Z)) ++ q9)) (fun q q9 => CI Z x (toN Z) u tm er dy ca pP pH pF pT op f1 f2 l0 hh c0 c1 c2 c3 tb q9) 24 0 (wv1) (by omega) hI ?_ ?_
    · rintro wv5 hE
      refine J_room (rc2 := 6) (rs2 := 36) (by omega) (by omega) ?_
      refine J_iload C iX9_isSame_509 rfl ?_
      refine J_bipush 24 C iX9_isSame_511 rfl ?_
      refine J_icmpge 538 C iX9_isSame_513 rfl (fun h513 => ?_) (fun h513 => absurd (by decide) h513)
      refine J_aload_n C iX9_isSame_538 rfl rfl ?_
      obtain ⟨fs7, hf7⟩ := CI.head hE
      refine J_cVb (As := []) (st := []) (rc2 := 6) (rs2 := 36) (w0 := (wv5)) (q0 := 0) C iX9_isSame_539 lm_X9_136 yc_X8_lightHouses yv_X8_lightHouses (k_lightHouses hE eq0 ok0) rfl rfl hf7 ((((arrI Z n1 24 (fun i => nI (ctD ((fun k a => dkN p h f t (toN Z) a k) i) (toN Z) (toN Z))) ++ wSim Z s (toN Z) (toM Z) hA lA oA tA eA (fun j => some (rw j)) (fun j => some (lr j)) fo ft fe dy ca) ++ wRw Z (toN Z) rw p h f t) ++ wPl Z L) ++ wLr Z (toM Z) lr (toK Z) (toV Z)) [] (by simp only [List.append_assoc, List.append_nil, List.nil_append]) rfl ⟨Nat.le_of_ble_eq_true rfl, Nat.le_of_ble_eq_true rfl⟩ (Nat.le_of_ble_eq_true rfl) (Nat.zero_add _).symm (Nat.zero_add _).symm ?_
      rintro _ w7 ⟨rfl, hC7⟩
      refine J_st (.int (nI (cnN (fun a => decide (loN p h f t (toN Z) a = 0)) (toN Z))) :: []) rfl ?_
      refine J_ws (((((arrI Z n1 24 (fun i => nI (ctD ((fun k a => dkN p h f t (toN Z) a k) i) (toN Z) (toN Z))) ++ wSim Z s (toN Z) (toM Z) hA lA oA tA eA (fun j => some (rw j)) (fun j => some (lr j)) fo ft fe dy ca) ++ wRw Z (toN Z) rw p h f t) ++ wPl Z L) ++ wLr Z (toM Z) lr (toK Z) (toV Z)) ++ w7) (by simp only [List.append_assoc, List.append_nil, List.nil_append]) ?_
      refine J_iload_n C iX9_isSame_542 rfl rfl ?_
      refine J_icmpne 572 C iX9_isSame_543 rfl (fun h543 => absurd (congrArg nI (ctD_all (fun a => decide (loN p h f t (toN Z) a = 0)) (toN Z)).symm) h543) (fun h543 => ?_)
      refine J_iload_n C iX9_isSame_546 rfl rfl ?_
      refine J_ifeq 568 C iX9_isSame_547 rfl (fun h547 => absurd h547 hn0) (fun h547 => ?_)
      refine J_aload_n C iX9_isSame_550 rfl rfl ?_
      obtain ⟨fs8, hf8⟩ := CI.head hC7
      refine J_room (rc2 := 1 + 5) (rs2 := 6 + 30) (by omega) (by omega) ?_
      refine J_cVb (As := []) (st := []) (rc2 := 5) (rs2 := 30) (w0 := (w7)) (q0 := 0) C iX9_isSame_551 lm_X9_139 yc_X8_worstHouse yv_X8_worstHouse (k_worstHouse hl hC7 eq0 ok0 (by omega)) rfl rfl hf8 ((((arrI Z n1 24 (fun i => nI (ctD ((fun k a => dkN p h f t (toN Z) a k) i) (toN Z) (toN Z))) ++ wSim Z s (toN Z) (toM Z) hA lA oA tA eA (fun j => some (rw j)) (fun j => some (lr j)) fo ft fe dy ca) ++ wRw Z (toN Z) rw p h f t) ++ wPl Z L) ++ wLr Z (toM Z) lr (toK Z) (toV Z)) [] (by simp only [List.append_assoc, List.append_nil, List.nil_append]) rfl ⟨Nat.le_of_ble_eq_true rfl, Nat.le_of_ble_eq_true rfl⟩ (Nat.le_of_ble_eq_true rfl) rfl rfl ?_
      rintro _ w8 ⟨rfl, hC8⟩
      refine J_st (.int (nI (axN (fun a => loN p h f t (toN Z) a) (toN Z))) :: []) rfl ?_
      refine J_ws (((((arrI Z n1 24 (fun i => nI (ctD ((fun k a => dkN p h f t (toN Z) a k) i) (toN Z) (toN Z))) ++ wSim Z s (toN Z) (toM Z) hA lA oA tA eA (fun j => some (rw j)) (fun j => some (lr j)) fo ft fe dy ca) ++ wRw Z (toN Z) rw p h f t) ++ wPl Z L) ++ wLr Z (toM Z) lr (toK Z) (toV Z)) ++ w8) (by simp only [List.append_assoc, List.append_nil, List.nil_append]) ?_
      refine J_iload C iX9_isSame_554 rfl ?_
      refine J_icmpne 572 C iX9_isSame_556 rfl (fun h556 => absurd (show nI (axN (fun a => loN p h f t (toN Z) a) (toN Z)) = opI (wrD (fun a => loN p h f t (toN Z) a) (toN Z) (toN Z)) by rw [wrD_all (by omega)]; rfl) h556) (fun h556 => ?_)
      refine J_aload_n C iX9_isSame_559 rfl rfl ?_
      obtain ⟨fs9, hf9⟩ := CI.head hC8
      refine J_room (rc2 := 1 + 4) (rs2 := 6 + 24) (by omega) (by omega) ?_
      refine J_cVb (As := []) (st := []) (rc2 := 4) (rs2 := 24) (w0 := (w8)) (q0 := 0) C iX9_isSame_560 lm_X9_142 yc_X8_darkestWall yv_X8_darkestWall (k_darkestWall hl hC8 eq0 ok0 (by omega)) rfl rfl hf9 ((((arrI Z n1 24 (fun i => nI (ctD ((fun k a => dkN p h f t (toN Z) a k) i) (toN Z) (toN Z))) ++ wSim Z s (toN Z) (toM Z) hA lA oA tA eA (fun j => some (rw j)) (fun j => some (lr j)) fo ft fe dy ca) ++ wRw Z (toN Z) rw p h f t) ++ wPl Z L) ++ wLr Z (toM Z) lr (toK Z) (toV Z)) [] (by simp only [List.append_assoc, List.append_nil, List.nil_append]) rfl ⟨Nat.le_of_ble_eq_true rfl, Nat.le_of_ble_eq_true rfl⟩ (Nat.le_of_ble_eq_true rfl) rfl rfl ?_
      rintro _ w9 ⟨rfl, hC9⟩
      refine J_st (.int (nI (axN (fun a => caN p h f t (toN Z) a) (toN Z))) :: []) rfl ?_
      refine J_ws (((((arrI Z n1 24 (fun i => nI (ctD ((fun k a => dkN p h f t (toN Z) a k) i) (toN Z) (toN Z))) ++ wSim Z s (toN Z) (toM Z) hA lA oA tA eA (fun j => some (rw j)) (fun j => some (lr j)) fo ft fe dy ca) ++ wRw Z (toN Z) rw p h f t) ++ wPl Z L) ++ wLr Z (toM Z) lr (toK Z) (toV Z)) ++ w9) (by simp only [List.append_assoc, List.append_nil, List.nil_append]) ?_
      refine J_iload C iX9_isSame_563 rfl ?_
      refine J_icmpne 572 C iX9_isSame_565 rfl (fun h565 => absurd (show nI (axN (fun a => caN p h f t (toN Z) a) (toN Z)) = opI (wrD (fun a => caN p h f t (toN Z) a) (toN Z) (toN Z)) by rw [wrD_all (by omega)]; rfl) h565) (fun h565 => ?_)
      refine J_iconst 1 C iX9_isSame_568 rfl ?_
      refine J_goto 573 C iX9_isSame_569 rfl ?_
      exact J_zret C E iX9_isSame_573 rfl rfl
    · rintro q wv5 hq0 hq hE ihe
      refine J_room (rc2 := 1 + 1 * (1 * (24 - (q + 1)) + 6)) (rs2 := 6 + 1 * (6 * (24 - (q + 1)) + 36)) (by omega) (by omega) ?_
      refine J_iload C iX9_isSame_509 rfl ?_
      refine J_bipush 24 C iX9_isSame_511 rfl ?_
      refine J_icmpge 538 C iX9_isSame_513 rfl (fun h513 => absurd h513 (nI_ge (a := q) (b := 24) (by omega) (by decide))) (fun h513 => ?_)
      refine J_aload_n C iX9_isSame_516 rfl rfl ?_
      refine J_iload C iX9_isSame_517 rfl ?_
      obtain ⟨fs10, hf10⟩ := CI.head hE
      refine J_room (rc2 := 1 + (0 + 1 * (1 * (24 - (q + 1)) + 6))) (rs2 := 6 + (0 + 1 * (6 * (24 - (q + 1)) + 36))) (by omega) (by omega) ?_
      refine J_cVb (As := [.int (nI q)]) (st := []) (rc2 := 0 + 1 * (1 * (24 - (q + 1)) + 6)) (rs2 := 0 + 1 * (6 * (24 - (q + 1)) + 36)) (w0 := (wv5)) (q0 := 0) C iX9_isSame_519 lm_X9_133 yc_X8_housesInTheDark yv_X8_housesInTheDark (k_housesInTheDark hl (k := q) hE eq0 ok0 (by omega)) rfl rfl hf10 ((((arrI Z n1 24 (fun i => nI (ctD ((fun k a => dkN p h f t (toN Z) a k) i) (toN Z) (toN Z))) ++ wSim Z s (toN Z) (toM Z) hA lA oA tA eA (fun j => some (rw j)) (fun j => some (lr j)) fo ft fe dy ca) ++ wRw Z (toN Z) rw p h f t) ++ wPl Z L) ++ wLr Z (toM Z) lr (toK Z) (toV Z)) [] (by simp only [List.append_assoc, List.append_nil, List.nil_append]) rfl ⟨Nat.le_of_ble_eq_true rfl, Nat.le_of_ble_eq_true rfl⟩ (Nat.le_of_ble_eq_true rfl) rfl rfl ?_
      rintro _ w10 ⟨rfl, hC10⟩
      refine J_st (.int (nI (cnN (fun a => dkN p h f t (toN Z) a q) (toN Z))) :: []) rfl ?_
      refine J_ws (((((arrI Z n1 24 (fun i => nI (ctD ((fun k a => dkN p h f t (toN Z) a k) i) (toN Z) (toN Z))) ++ wSim Z s (toN Z) (toM Z) hA lA oA tA eA (fun j => some (rw j)) (fun j => some (lr j)) fo ft fe dy ca) ++ wRw Z (toN Z) rw p h f t) ++ wPl Z L) ++ wLr Z (toM Z) lr (toK Z) (toV Z)) ++ w10) (by simp only [List.append_assoc, List.append_nil, List.nil_append]) ?_
      refine J_aload C iX9_isSame_522 rfl ?_
      refine J_iload C iX9_isSame_524 rfl ?_
      refine J_iald 0 C iX9_isSame_526 rfl (vp_in_nI (n := q) (by omega) (by omega)) ?_
      rw [nI_clamp (n := q) (by omega)]
      refine J_icmpeq 532 C iX9_isSame_527 rfl (fun h527 => ?_) (fun h527 => absurd (congrArg nI (ctD_all ((fun k a => dkN p h f t (toN Z) a k) q) (toN Z)).symm) h527)
      refine J_iinc ((nI q) + 1) [(7, .int ((nI q) + 1)), (6, .ref n1), (5, .int (opI (wrD (fun a => caN p h f t (toN Z) a) (toN Z) (toN Z)))), (4, .int (opI (wrD (fun a => loN p h f t (toN Z) a) (toN Z) (toN Z)))), (3, .int (nI (ctD (fun a => decide (loN p h f t (toN Z) a = 0)) (toN Z) (toN Z)))), (2, .int (nI (toN Z))), (1, .ref (x 0)), (0, .ref s)] C iX9_isSame_532 rfl rfl (by decide) rfl ?_
      rw [show (nI q) + 1 = nI (q + 1) from nI_add _ _]
      refine J_goto 509 C iX9_isSame_535 rfl ?_
      refine J_lvm [(7, .int (nI (q + 1))), (6, .ref n1), (5, .int (opI (wrD (fun a => caN p h f t (toN Z) a) (toN Z) (toN Z)))), (4, .int (opI (wrD (fun a => loN p h f t (toN Z) a) (toN Z) (toN Z)))), (3, .int (nI (ctD (fun a => decide (loN p h f t (toN Z) a = 0)) (toN Z) (toN Z)))), (2, .int (nI (toN Z))), (1, .ref (x 0)), (0, .ref s)] rfl ?_
      refine J_room (rc2 := 1 * (24 - (q + 1)) + 6) (rs2 := 6 * (24 - (q + 1)) + 36) (by omega) (by omega) ?_
      exact ihe (w10) hC10
  · rintro k wv1 hk0 hk hI ih
    refine J_room (rc2 := 500 + 1 * (50 + 500 * (9 - (k + 1)))) (rs2 := 3000 + 1 * (300 + 3000 * (9 - (k + 1)))) (by omega) (by omega) ?_
    refine J_iload C iX9_isSame_104 rfl ?_
    refine J_iflt 506 C iX9_isSame_106 rfl (fun h106 => absurd h106 (fun z => by rw [dn_in hk] at z; exact nI_pos (n := toN Z - 1 - k) (by omega) z)) (fun h106 => ?_)
    obtain ⟨a, hae⟩ : ∃ a, a = toN Z - 1 - k := ⟨_, rfl⟩
    have han : a < toN Z := by omega
    have ha9 := ok0.2 a han
    refine J_lvm [(7, .int (nI a)), (6, .ref n1), (5, .int (opI (wrD (fun a => caN p h f t (toN Z) a) (toN Z) k))), (4, .int (opI (wrD (fun a => loN p h f t (toN Z) a) (toN Z) k))), (3, .int (nI (ctD (fun a => decide (loN p h f t (toN Z) a = 0)) (toN Z) k))), (2, .int (nI (toN Z))), (1, .ref (x 0)), (0, .ref s)] (by rw [dn_in hk, ← hae]; rfl) ?_
    refine J_aload_n C iX9_isSame_109 rfl rfl ?_
    refine J_get (.ref hA) 1 C iX9_isSame_110 gf_X9_9 rfl rfl ?_
    refine J_iload C iX9_isSame_113 rfl ?_
    refine J_aaldA 2 C iX9_isSame_115 rfl (vp_in_nI (n := a) (by omega) (by omega)) ?_
    rw [nI_clamp (n := a) (by omega)]
    refine J_st (.ref (rw a) :: []) rfl ?_
    refine J_astore [(8, .ref (rw a)), (7, .int (nI a)), (6, .ref n1), (5, .int (opI (wrD (fun a => caN p h f t (toN Z) a) (toN Z) k))), (4, .int (opI (wrD (fun a => loN p h f t (toN Z) a) (toN Z) k))), (3, .int (nI (ctD (fun a => decide (loN p h f t (toN Z) a = 0)) (toN Z) k))), (2, .int (nI (toN Z))), (1, .ref (x 0)), (0, .ref s)] C iX9_isSame_116 (by decide) rfl ?_
    refine J_alt (ι := va_W) (P := fun w9 => CI Z x (toN Z) u tm er dy ca pP pH pF pT op f1 f2 l0 hh c0 c1 c2 c3 tb w9) (500 + 1 * (50 + 500 * (9 - (k + 1)))) (3000 + 1 * (300 + 3000 * (9 - (k + 1)))) 134 (fun _ => [(8, .ref (rw a)), (7, .int (nI a)), (6, .ref n1), (5, .int (opI (wrD (fun a => caN p h f t (toN Z) a) (toN Z) k))), (4, .int (opI (wrD (fun a => loN p h f t (toN Z) a) (toN Z) k))), (3, .int (nI (ctD (fun a => decide (loN p h f t (toN Z) a = 0)) (toN Z) k))), (2, .int (nI (toN Z))), (1, .ref (x 0)), (0, .ref s)]) (fun _ => .int (nI (ctD (fun a => decide (loN p h f t (toN Z) a = 0)) (toN Z) (k + 1))) :: []) (fun w9 => (((((arrI Z n1 24 (fun i => nI (ctD ((fun k a => dkN p h f t (toN Z) a k) i) (toN Z) k)) ++ wSim Z s (toN Z) (toM Z) hA lA oA tA eA (fun j => some (rw j)) (fun j => some (lr j)) fo ft fe dy ca) ++ wRw Z (toN Z) rw p h f t) ++ wPl Z L) ++ wLr Z (toM Z) lr (toK Z) (toV Z)) ++ w9)) (fun w11 hC11 => ?_) (fun hk134 => ?_)
    · refine J_istore_n [(3, .int (nI (ctD (fun a => decide (loN p h f t (toN Z) a = 0)) (toN Z) (k + 1)))), (8, .ref (rw a)), (7, .int (nI a)), (6, .ref n1), (5, .int (opI (wrD (fun a => caN p h f t (toN Z) a) (toN Z) k))), (4, .int (opI (wrD (fun a => loN p h f t (toN Z) a) (toN Z) k))), (2, .int (nI (toN Z))), (1, .ref (x 0)), (0, .ref s)] C iX9_isSame_134 rfl (by decide) rfl ?_
      refine J_alt (ι := va_W) (P := fun w9 => CI Z x (toN Z) u tm er dy ca pP pH pF pT op f1 f2 l0 hh c0 c1 c2 c3 tb w9) (500 + 1 * (50 + 500 * (9 - (k + 1)))) (3000 + 1 * (300 + 3000 * (9 - (k + 1)))) 159 (fun _ => [(3, .int (nI (ctD (fun a => decide (loN p h f t (toN Z) a = 0)) (toN Z) (k + 1)))), (8, .ref (rw a)), (7, .int (nI a)), (6, .ref n1), (5, .int (opI (wrD (fun a => caN p h f t (toN Z) a) (toN Z) k))), (4, .int (opI (wrD (fun a => loN p h f t (toN Z) a) (toN Z) (k + 1)))), (2, .int (nI (toN Z))), (1, .ref (x 0)), (0, .ref s)]) (fun _ => []) (fun w9 => (((((arrI Z n1 24 (fun i => nI (ctD ((fun k a => dkN p h f t (toN Z) a k) i) (toN Z) k)) ++ wSim Z s (toN Z) (toM Z) hA lA oA tA eA (fun j => some (rw j)) (fun j => some (lr j)) fo ft fe dy ca) ++ wRw Z (toN Z) rw p h f t) ++ wPl Z L) ++ wLr Z (toM Z) lr (toK Z) (toV Z)) ++ w9)) (fun w12 hC12 => ?_) (fun hk159 => ?_)
      · refine J_alt (ι := va_W) (P := fun w9 => CI Z x (toN Z) u tm er dy ca pP pH pF pT op f1 f2 l0 hh c0 c1 c2 c3 tb w9) (500 + 1 * (50 + 500 * (9 - (k + 1)))) (3000 + 1 * (300 + 3000 * (9 - (k + 1)))) 183 (fun _ => [(3, .int (nI (ctD (fun a => decide (loN p h f t (toN Z) a = 0)) (toN Z) (k + 1)))), (8, .ref (rw a)), (7, .int (nI a)), (6, .ref n1), (5, .int (opI (wrD (fun a => caN p h f t (toN Z) a) (toN Z) (k + 1)))), (4, .int (opI (wrD (fun a => loN p h f t (toN Z) a) (toN Z) (k + 1)))), (2, .int (nI (toN Z))), (1, .ref (x 0)), (0, .ref s)]) (fun _ => []) (fun w9 => (((((arrI Z n1 24 (fun i => nI (ctD ((fun k a => dkN p h f t (toN Z) a k) i) (toN Z) k)) ++ wSim Z s (toN Z) (toM Z) hA lA oA tA eA (fun j => some (rw j)) (fun j => some (lr j)) fo ft fe dy ca) ++ wRw Z (toN Z) rw p h f t) ++ wPl Z L) ++ wLr Z (toM Z) lr (toK Z) (toV Z)) ++ w9)) (fun w13 hC13 => ?_) (fun hk183 => ?_)
        · refine J_aload_n C iX9_isSame_183 rfl rfl ?_
          refine J_iload C iX9_isSame_184 rfl ?_
          obtain ⟨fs14, hf14⟩ := CI.head hC13
          refine J_room (rc2 := 1 + (499 + 1 * (50 + 500 * (9 - (k + 1))))) (rs2 := 6 + (2994 + 1 * (300 + 3000 * (9 - (k + 1))))) (by omega) (by omega) ?_
          refine J_cVb (As := [.int (nI a)]) (st := []) (rc2 := 499 + 1 * (50 + 500 * (9 - (k + 1)))) (rs2 := 2994 + 1 * (300 + 3000 * (9 - (k + 1)))) (w0 := (w13)) (q0 := 0) C iX9_isSame_186 lm_X9_96 yc_X8_placeOf yv_X8_placeOf (k_placeOf hl (a := a) hC13 eq0 ok0 (by omega)) rfl rfl hf14 ((((arrI Z n1 24 (fun i => nI (ctD ((fun k a => dkN p h f t (toN Z) a k) i) (toN Z) k)) ++ wSim Z s (toN Z) (toM Z) hA lA oA tA eA (fun j => some (rw j)) (fun j => some (lr j)) fo ft fe dy ca) ++ wRw Z (toN Z) rw p h f t) ++ wPl Z L) ++ wLr Z (toM Z) lr (toK Z) (toV Z)) [] (by simp only [List.append_assoc, List.append_nil, List.nil_append]) rfl ⟨Nat.le_of_ble_eq_true rfl, Nat.le_of_ble_eq_true rfl⟩ (Nat.le_of_ble_eq_true rfl) rfl rfl ?_
          rintro _ w14 ⟨rfl, hC14⟩
          refine J_st (.int (nI (p a)) :: []) rfl ?_
          refine J_ws (((((arrI Z n1 24 (fun i => nI (ctD ((fun k a => dkN p h f t (toN Z) a k) i) (toN Z) k)) ++ wSim Z s (toN Z) (toM Z) hA lA oA tA eA (fun j => some (rw j)) (fun j => some (lr j)) fo ft fe dy ca) ++ wRw Z (toN Z) rw p h f t) ++ wPl Z L) ++ wLr Z (toM Z) lr (toK Z) (toV Z)) ++ w14) (by simp only [List.append_assoc, List.append_nil, List.nil_append]) ?_
          refine J_aload C iX9_isSame_189 rfl ?_
          refine J_iconst 0 C iX9_isSame_191 rfl ?_
          refine J_iald (n := 4) (f := rowF p h f t a) (((arrI Z n1 24 (fun i => nI (ctD ((fun k a => dkN p h f t (toN Z) a k) i) (toN Z) k)) ++ wSim Z s (toN Z) (toM Z) hA lA oA tA eA (fun j => some (rw j)) (fun j => some (lr j)) fo ft fe dy ca)).length + a) C iX9_isSame_192 (mid_at (A := (arrI Z n1 24 (fun i => nI (ctD ((fun k a => dkN p h f t (toN Z) a k) i) (toN Z) k)) ++ wSim Z s (toN Z) (toM Z) hA lA oA tA eA (fun j => some (rw j)) (fun j => some (lr j)) fo ft fe dy ca)) (M := wRw Z (toN Z) rw p h f t) (B := ((wPl Z L ++ wLr Z (toM Z) lr (toK Z) (toV Z)) ++ w14)) (by simp only [List.append_assoc, List.append_nil, List.nil_append]) (wRw_at (by omega))) (vp_in_nI (n := 0) (by decide) (by decide)) ?_
          refine J_st (.int (nI (p a)) :: .int (nI (p a)) :: []) rfl ?_
          refine J_icmpne 293 C iX9_isSame_193 rfl (fun h193 => absurd rfl h193) (fun h193 => ?_)
          refine J_aload_n C iX9_isSame_196 rfl rfl ?_
          refine J_iload C iX9_isSame_197 rfl ?_
          obtain ⟨fs15, hf15⟩ := CI.head hC14
          refine J_room (rc2 := 1 + (498 + 1 * (50 + 500 * (9 - (k + 1))))) (rs2 := 6 + (2988 + 1 * (300 + 3000 * (9 - (k + 1))))) (by omega) (by omega) ?_
          refine J_cVb (As := [.int (nI a)]) (st := []) (rc2 := 498 + 1 * (50 + 500 * (9 - (k + 1)))) (rs2 := 2988 + 1 * (300 + 3000 * (9 - (k + 1)))) (w0 := (w14)) (q0 := 0) C iX9_isSame_199 lm_X9_99 yc_X8_heightOf yv_X8_heightOf (k_heightOf hl (a := a) hC14 eq0 ok0 (by omega)) rfl rfl hf15 ((((arrI Z n1 24 (fun i => nI (ctD ((fun k a => dkN p h f t (toN Z) a k) i) (toN Z) k)) ++ wSim Z s (toN Z) (toM Z) hA lA oA tA eA (fun j => some (rw j)) (fun j => some (lr j)) fo ft fe dy ca) ++ wRw Z (toN Z) rw p h f t) ++ wPl Z L) ++ wLr Z (toM Z) lr (toK Z) (toV Z)) [] (by simp only [List.append_assoc, List.append_nil, List.nil_append]) rfl ⟨Nat.le_of_ble_eq_true rfl, Nat.le_of_ble_eq_true rfl⟩ (Nat.le_of_ble_eq_true rfl) rfl rfl ?_
          rintro _ w15 ⟨rfl, hC15⟩
          refine J_st (.int (nI (h a)) :: []) rfl ?_
          refine J_ws (((((arrI Z n1 24 (fun i => nI (ctD ((fun k a => dkN p h f t (toN Z) a k) i) (toN Z) k)) ++ wSim Z s (toN Z) (toM Z) hA lA oA tA eA (fun j => some (rw j)) (fun j => some (lr j)) fo ft fe dy ca) ++ wRw Z (toN Z) rw p h f t) ++ wPl Z L) ++ wLr Z (toM Z) lr (toK Z) (toV Z)) ++ w15) (by simp only [List.append_assoc, List.append_nil, List.nil_append]) ?_
          refine J_aload C iX9_isSame_202 rfl ?_
          refine J_iconst 1 C iX9_isSame_204 rfl ?_
          refine J_iald (n := 4) (f := rowF p h f t a) (((arrI Z n1 24 (fun i => nI (ctD ((fun k a => dkN p h f t (toN Z) a k) i) (toN Z) k)) ++ wSim Z s (toN Z) (toM Z) hA lA oA tA eA (fun j => some (rw j)) (fun j => some (lr j)) fo ft fe dy ca)).length + a) C iX9_isSame_205 (mid_at (A := (arrI Z n1 24 (fun i => nI (ctD ((fun k a => dkN p h f t (toN Z) a k) i) (toN Z) k)) ++ wSim Z s (toN Z) (toM Z) hA lA oA tA eA (fun j => some (rw j)) (fun j => some (lr j)) fo ft fe dy ca)) (M := wRw Z (toN Z) rw p h f t) (B := ((wPl Z L ++ wLr Z (toM Z) lr (toK Z) (toV Z)) ++ w15)) (by simp only [List.append_assoc, List.append_nil, List.nil_append]) (wRw_at (by omega))) (vp_in_nI (n := 1) (by decide) (by decide)) ?_
          refine J_st (.int (nI (h a)) :: .int (nI (h a)) :: []) rfl ?_
          refine J_icmpne 293 C iX9_isSame_206 rfl (fun h206 => absurd rfl h206) (fun h206 => ?_)
          refine J_alt (ι := va_W) (P := fun w9 => CI Z x (toN Z) u tm er dy ca pP pH pF pT op f1 f2 l0 hh c0 c1 c2 c3 tb w9) (493 + 1 * (50 + 500 * (9 - (k + 1)))) (2958 + 1 * (300 + 3000 * (9 - (k + 1)))) 263 (fun _ => [(3, .int (nI (ctD (fun a => decide (loN p h f t (toN Z) a = 0)) (toN Z) (k + 1)))), (8, .ref (rw a)), (7, .int (nI a)), (6, .ref n1), (5, .int (opI (wrD (fun a => caN p h f t (toN Z) a) (toN Z) (k + 1)))), (4, .int (opI (wrD (fun a => loN p h f t (toN Z) a) (toN Z) (k + 1)))), (2, .int (nI (toN Z))), (1, .ref (x 0)), (0, .ref s)]) (fun _ => []) (fun w9 => (((((arrI Z n1 24 (fun i => nI (ctD ((fun k a => dkN p h f t (toN Z) a k) i) (toN Z) k)) ++ wSim Z s (toN Z) (toM Z) hA lA oA tA eA (fun j => some (rw j)) (fun j => some (lr j)) fo ft fe dy ca) ++ wRw Z (toN Z) rw p h f t) ++ wPl Z L) ++ wLr Z (toM Z) lr (toK Z) (toV Z)) ++ w9)) (fun w16 hC16 => ?_) (fun hk263 => ?_)
          · refine J_aload_n C iX9_isSame_263 rfl rfl ?_
            refine J_iload C iX9_isSame_264 rfl ?_
            obtain ⟨fs17, hf17⟩ := CI.head hC16
            refine J_room (rc2 := 1 + (492 + 1 * (50 + 500 * (9 - (k + 1))))) (rs2 := 6 + (2952 + 1 * (300 + 3000 * (9 - (k + 1))))) (by omega) (by omega) ?_
            refine J_cVb (As := [.int (nI a)]) (st := []) (rc2 := 492 + 1 * (50 + 500 * (9 - (k + 1)))) (rs2 := 2952 + 1 * (300 + 3000 * (9 - (k + 1)))) (w0 := (w16)) (q0 := 0) C iX9_isSame_266 lm_X9_112 yc_X8_hoursLost yv_X8_hoursLost (k_hoursLost hl (a := a) hC16 eq0 ok0 (by omega)) rfl rfl hf17 ((((arrI Z n1 24 (fun i => nI (ctD ((fun k a => dkN p h f t (toN Z) a k) i) (toN Z) k)) ++ wSim Z s (toN Z) (toM Z) hA lA oA tA eA (fun j => some (rw j)) (fun j => some (lr j)) fo ft fe dy ca) ++ wRw Z (toN Z) rw p h f t) ++ wPl Z L) ++ wLr Z (toM Z) lr (toK Z) (toV Z)) [] (by simp only [List.append_assoc, List.append_nil, List.nil_append]) rfl ⟨Nat.le_of_ble_eq_true rfl, Nat.le_of_ble_eq_true rfl⟩ (Nat.le_of_ble_eq_true rfl) rfl rfl ?_
            rintro _ w17 ⟨rfl, hC17⟩
            refine J_st (.int (nI (loN p h f t (toN Z) a)) :: []) rfl ?_
            refine J_ws (((((arrI Z n1 24 (fun i => nI (ctD ((fun k a => dkN p h f t (toN Z) a k) i) (toN Z) k)) ++ wSim Z s (toN Z) (toM Z) hA lA oA tA eA (fun j => some (rw j)) (fun j => some (lr j)) fo ft fe dy ca) ++ wRw Z (toN Z) rw p h f t) ++ wPl Z L) ++ wLr Z (toM Z) lr (toK Z) (toV Z)) ++ w17) (by simp only [List.append_assoc, List.append_nil, List.nil_append]) ?_
            refine J_aload_n C iX9_isSame_269 rfl rfl ?_
            refine J_iload C iX9_isSame_270 rfl ?_
            refine J_cVb (As := [.int (nI a)]) (st := .int (nI (loN p h f t (toN Z) a)) :: []) (rc2 := 492 + 1 * (50 + 500 * (9 - (k + 1)))) (rs2 := 2952 + 1 * (300 + 3000 * (9 - (k + 1)))) (w0 := (wSim Z s (toN Z) (toM Z) hA lA oA tA eA (fun j => some (rw j)) (fun j => some (lr j)) fo ft fe dy ca ++ wRw Z (toN Z) rw p h f t)) (q0 := 0) C iX9_isSame_272 lm_X9_59 yc_X9_lost yv_X9_lost (c_X9_lost (a := a) ok0 (by omega)) rfl rfl rfl (arrI Z n1 24 (fun i => nI (ctD ((fun k a => dkN p h f t (toN Z) a k) i) (toN Z) k))) ((wPl Z L ++ wLr Z (toM Z) lr (toK Z) (toV Z)) ++ w17) (by simp only [List.append_assoc, List.append_nil, List.nil_append]) rfl ⟨Nat.le_of_ble_eq_true rfl, Nat.le_of_ble_eq_true rfl⟩ (Nat.le_of_ble_eq_true rfl) (Nat.zero_add _).symm (Nat.zero_add _).symm ?_
            rintro _ _ ⟨rfl, rfl⟩
            refine J_st (.int (nI (loN p h f t (toN Z) a)) :: .int (nI (loN p h f t (toN Z) a)) :: []) rfl ?_
            refine J_ws (((((arrI Z n1 24 (fun i => nI (ctD ((fun k a => dkN p h f t (toN Z) a k) i) (toN Z) k)) ++ wSim Z s (toN Z) (toM Z) hA lA oA tA eA (fun j => some (rw j)) (fun j => some (lr j)) fo ft fe dy ca) ++ wRw Z (toN Z) rw p h f t) ++ wPl Z L) ++ wLr Z (toM Z) lr (toK Z) (toV Z)) ++ w17) (by simp only [List.append_assoc, List.append_nil, List.nil_append]) ?_
            refine J_icmpne 293 C iX9_isSame_275 rfl (fun h275 => absurd rfl h275) (fun h275 => ?_)
            refine J_aload_n C iX9_isSame_278 rfl rfl ?_
            refine J_iload C iX9_isSame_279 rfl ?_
            obtain ⟨fs18, hf18⟩ := CI.head hC17
            refine J_room (rc2 := 1 + (491 + 1 * (50 + 500 * (9 - (k + 1))))) (rs2 := 6 + (2946 + 1 * (300 + 3000 * (9 - (k + 1))))) (by omega) (by omega) ?_
            refine J_cVb (As := [.int (nI a)]) (st := []) (rc2 := 491 + 1 * (50 + 500 * (9 - (k + 1)))) (rs2 := 2946 + 1 * (300 + 3000 * (9 - (k + 1)))) (w0 := (w17)) (q0 := 0) C iX9_isSame_281 lm_X9_115 yc_X8_castBy yv_X8_castBy (k_castBy hl (a := a) hC17 eq0 ok0 (by omega)) rfl rfl hf18 ((((arrI Z n1 24 (fun i => nI (ctD ((fun k a => dkN p h f t (toN Z) a k) i) (toN Z) k)) ++ wSim Z s (toN Z) (toM Z) hA lA oA tA eA (fun j => some (rw j)) (fun j => some (lr j)) fo ft fe dy ca) ++ wRw Z (toN Z) rw p h f t) ++ wPl Z L) ++ wLr Z (toM Z) lr (toK Z) (toV Z)) [] (by simp only [List.append_assoc, List.append_nil, List.nil_append]) rfl ⟨Nat.le_of_ble_eq_true rfl, Nat.le_of_ble_eq_true rfl⟩ (Nat.le_of_ble_eq_true rfl) rfl rfl ?_
            rintro _ w18 ⟨rfl, hC18⟩
            refine J_st (.int (nI (caN p h f t (toN Z) a)) :: []) rfl ?_
            refine J_ws (((((arrI Z n1 24 (fun i => nI (ctD ((fun k a => dkN p h f t (toN Z) a k) i) (toN Z) k)) ++ wSim Z s (toN Z) (toM Z) hA lA oA tA eA (fun j => some (rw j)) (fun j => some (lr j)) fo ft fe dy ca) ++ wRw Z (toN Z) rw p h f t) ++ wPl Z L) ++ wLr Z (toM Z) lr (toK Z) (toV Z)) ++ w18) (by simp only [List.append_assoc, List.append_nil, List.nil_append]) ?_
            refine J_aload_n C iX9_isSame_284 rfl rfl ?_
            refine J_iload C iX9_isSame_285 rfl ?_
            refine J_cVb (As := [.int (nI a)]) (st := .int (nI (caN p h f t (toN Z) a)) :: []) (rc2 := 491 + 1 * (50 + 500 * (9 - (k + 1)))) (rs2 := 2946 + 1 * (300 + 3000 * (9 - (k + 1)))) (w0 := (wSim Z s (toN Z) (toM Z) hA lA oA tA eA (fun j => some (rw j)) (fun j => some (lr j)) fo ft fe dy ca ++ wRw Z (toN Z) rw p h f t)) (q0 := 0) C iX9_isSame_287 lm_X9_93 yc_X9_cast yv_X9_cast (c_X9_cast (b := a) ok0 (by omega)) rfl rfl rfl (arrI Z n1 24 (fun i => nI (ctD ((fun k a => dkN p h f t (toN Z) a k) i) (toN Z) k))) ((wPl Z L ++ wLr Z (toM Z) lr (toK Z) (toV Z)) ++ w18) (by simp only [List.append_assoc, List.append_nil, List.nil_append]) rfl ⟨Nat.le_of_ble_eq_true rfl, Nat.le_of_ble_eq_true rfl⟩ (Nat.le_of_ble_eq_true rfl) (Nat.zero_add _).symm (Nat.zero_add _).symm ?_
            rintro _ _ ⟨rfl, rfl⟩
            refine J_st (.int (nI (caN p h f t (toN Z) a)) :: .int (nI (caN p h f t (toN Z) a)) :: []) rfl ?_
            refine J_ws (((((arrI Z n1 24 (fun i => nI (ctD ((fun k a => dkN p h f t (toN Z) a k) i) (toN Z) k)) ++ wSim Z s (toN Z) (toM Z) hA lA oA tA eA (fun j => some (rw j)) (fun j => some (lr j)) fo ft fe dy ca) ++ wRw Z (toN Z) rw p h f t) ++ wPl Z L) ++ wLr Z (toM Z) lr (toK Z) (toV Z)) ++ w18) (by simp only [List.append_assoc, List.append_nil, List.nil_append]) ?_
            refine J_icmpeq 295 C iX9_isSame_290 rfl (fun h290 => ?_) (fun h290 => absurd rfl h290)
            refine J_iconst 0 C iX9_isSame_295 rfl ?_
            refine J_istore [(9, .int 0), (3, .int (nI (ctD (fun a => decide (loN p h f t (toN Z) a = 0)) (toN Z) (k + 1)))), (8, .ref (rw a)), (7, .int (nI a)), (6, .ref n1), (5, .int (opI (wrD (fun a => caN p h f t (toN Z) a) (toN Z) (k + 1)))), (4, .int (opI (wrD (fun a => loN p h f t (toN Z) a) (toN Z) (k + 1)))), (2, .int (nI (toN Z))), (1, .ref (x 0)), (0, .ref s)] C iX9_isSame_296 (by decide) rfl ?_
            refine J_room (rc2 := 2 * (9 - 0) + (450 + 1 * (50 + 500 * (9 - (k + 1))))) (rs2 := 12 * (9 - 0) + (2700 + 1 * (300 + 3000 * (9 - (k + 1))))) (by omega) (by omega) ?_
            refine J_lvm [(9, .int (nI 0)), (3, .int (nI (ctD (fun a => decide (loN p h f t (toN Z) a = 0)) (toN Z) (k + 1)))), (8, .ref (rw a)), (7, .int (nI a)), (6, .ref n1), (5, .int (opI (wrD (fun a => caN p h f t (toN Z) a) (toN Z) (k + 1)))), (4, .int (opI (wrD (fun a => loN p h f t (toN Z) a) (toN Z) (k + 1)))), (2, .int (nI (toN Z))), (1, .ref (x 0)), (0, .ref s)] (by rfl) ?_
            refine J_forR (σ := va_W) (fun b => 2 * (9 - b) + (450 + 1 * (50 + 500 * (9 - (k + 1))))) (fun b => 12 * (9 - b) + (2700 + 1 * (300 + 3000 * (9 - (k + 1))))) (fun b q9 => [(9, .int (nI b)), (3, .int (nI (ctD (fun a => decide (loN p h f t (toN Z) a = 0)) (toN Z) (k + 1)))), (8, .ref (rw a)), (7, .int (nI a)), (6, .ref n1), (5, .int (opI (wrD (fun a => caN p h f t (toN Z) a) (toN Z) (k + 1)))), (4, .int (opI (wrD (fun a => loN p h f t (toN Z) a) (toN Z) (k + 1)))), (2, .int (nI (toN Z))), (1, .ref (x 0)), (0, .ref s)]) (fun b q9 => (((((arrI Z n1 24 (fun i => nI (ctD ((fun k a => dkN p h f t (toN Z) a k) i) (toN Z) k)) ++ wSim Z s (toN Z) (toM Z) hA lA oA tA eA (fun j => some (rw j)) (fun j => some (lr j)) fo ft fe dy ca) ++ wRw Z (toN Z) rw p h f t) ++ wPl Z L) ++ wLr Z (toM Z) lr (toK Z) (toV Z)) ++ q9)) (fun b q9 => CI Z x (toN Z) u tm er dy ca pP pH pF pT op f1 f2 l0 hh c0 c1 c2 c3 tb q9) (toN Z) 0 (w18) (by omega) hC18 ?_ ?_
            · rintro wv2 hB
              refine J_room (rc2 := 450 + 1 * (50 + 500 * (9 - (k + 1)))) (rs2 := 2700 + 1 * (300 + 3000 * (9 - (k + 1)))) (by omega) (by omega) ?_
              refine J_iload C iX9_isSame_298 rfl ?_
              refine J_iload_n C iX9_isSame_300 rfl rfl ?_
              refine J_icmpge 331 C iX9_isSame_301 rfl (fun h301 => ?_) (fun h301 => absurd (nI_le (a := toN Z) (b := toN Z) (by omega) (by omega)) h301)
              refine J_iconst 0 C iX9_isSame_331 rfl ?_
              refine J_istore [(9, .int 0), (3, .int (nI (ctD (fun a => decide (loN p h f t (toN Z) a = 0)) (toN Z) (k + 1)))), (8, .ref (rw a)), (7, .int (nI a)), (6, .ref n1), (5, .int (opI (wrD (fun a => caN p h f t (toN Z) a) (toN Z) (k + 1)))), (4, .int (opI (wrD (fun a => loN p h f t (toN Z) a) (toN Z) (k + 1)))), (2, .int (nI (toN Z))), (1, .ref (x 0)), (0, .ref s)] C iX9_isSame_332 (by decide) rfl ?_
              refine J_ws (((((arrI Z n1 24 (fun i => if i < 0 then nI (ctD ((fun k a => dkN p h f t (toN Z) a k) i) (toN Z) (k + 1)) else nI (ctD ((fun k a => dkN p h f t (toN Z) a k) i) (toN Z) k)) ++ wSim Z s (toN Z) (toM Z) hA lA oA tA eA (fun j => some (rw j)) (fun j => some (lr j)) fo ft fe dy ca) ++ wRw Z (toN Z) rw p h f t) ++ wPl Z L) ++ wLr Z (toM Z) lr (toK Z) (toV Z)) ++ wv2) (by simp only [Nat.not_lt_zero, if_false]) ?_
              refine J_room (rc2 := 18 * (24 - 0) + (10 + 1 * (50 + 500 * (9 - (k + 1))))) (rs2 := 108 * (24 - 0) + (60 + 1 * (300 + 3000 * (9 - (k + 1))))) (by omega) (by omega) ?_
              refine J_lvm [(9, .int (nI 0)), (3, .int (nI (ctD (fun a => decide (loN p h f t (toN Z) a = 0)) (toN Z) (k + 1)))), (8, .ref (rw a)), (7, .int (nI a)), (6, .ref n1), (5, .int (opI (wrD (fun a => caN p h f t (toN Z) a) (toN Z) (k + 1)))), (4, .int (opI (wrD (fun a => loN p h f t (toN Z) a) (toN Z) (k + 1)))), (2, .int (nI (toN Z))), (1, .ref (x 0)), (0, .ref s)] (by rfl) ?_
              refine J_forR (σ := va_W) (fun q => 18 * (24 - q) + (10 + 1 * (50 + 500 * (9 - (k + 1))))) (fun q => 108 * (24 - q) + (60 + 1 * (300 + 3000 * (9 - (k + 1))))) (fun q q9 => [(9, .int (nI q)), (3, .int (nI (ctD (fun a => decide (loN p h f t (toN Z) a = 0)) (toN Z) (k + 1)))), (8, .ref (rw a)), (7, .int (nI a)), (6, .ref n1), (5, .int (opI (wrD (fun a => caN p h f t (toN Z) a) (toN Z) (k + 1)))), (4, .int (opI (wrD (fun a => loN p h f t (toN Z) a) (toN Z) (k + 1)))), (2, .int (nI (toN Z))), (1, .ref (x 0)), (0, .ref s)]) (fun q q9 => (((((arrI Z n1 24 (fun i => if i < q then nI (ctD ((fun k a => dkN p h f t (toN Z) a k) i) (toN Z) (k + 1)) else nI (ctD ((fun k a => dkN p h f t (toN Z) a k) i) (toN Z) k)) ++ wSim Z s (toN Z) (toM Z) hA lA oA tA eA (fun j => some (rw j)) (fun j => some (lr j)) fo ft fe dy ca) ++ wRw Z (toN Z) rw p h f t) ++ wPl Z L) ++ wLr Z (toM Z) lr (toK Z) (toV Z)) ++ q9)) (fun q q9 => CI Z x (toN Z) u tm er dy ca pP pH pF pT op f1 f2 l0 hh c0 c1 c2 c3 tb q9) 24 0 (wv2) (by omega) hB ?_ ?_
              · rintro wv3 hH
                refine J_room (rc2 := 10 + 1 * (50 + 500 * (9 - (k + 1)))) (rs2 := 60 + 1 * (300 + 3000 * (9 - (k + 1)))) (by omega) (by omega) ?_
                refine J_iload C iX9_isSame_334 rfl ?_
                refine J_bipush 24 C iX9_isSame_336 rfl ?_
                refine J_icmpge 500 C iX9_isSame_338 rfl (fun h338 => ?_) (fun h338 => absurd (by decide) h338)
                refine J_rowI 0 (g := fun i => nI (ctD ((fun k a => dkN p h f t (toN Z) a k) i) (toN Z) (k + 1))) (((((arrI Z n1 24 (fun i => nI (ctD ((fun k a => dkN p h f t (toN Z) a k) i) (toN Z) (k + 1))) ++ wSim Z s (toN Z) (toM Z) hA lA oA tA eA (fun j => some (rw j)) (fun j => some (lr j)) fo ft fe dy ca) ++ wRw Z (toN Z) rw p h f t) ++ wPl Z L) ++ wLr Z (toM Z) lr (toK Z) (toV Z)) ++ wv3) rfl drk_all rfl ?_
                refine J_iinc ((nI a) + (-1)) [(7, .int ((nI a) + (-1))), (9, .int (nI 24)), (3, .int (nI (ctD (fun a => decide (loN p h f t (toN Z) a = 0)) (toN Z) (k + 1)))), (8, .ref (rw a)), (6, .ref n1), (5, .int (opI (wrD (fun a => caN p h f t (toN Z) a) (toN Z) (k + 1)))), (4, .int (opI (wrD (fun a => loN p h f t (toN Z) a) (toN Z) (k + 1)))), (2, .int (nI (toN Z))), (1, .ref (x 0)), (0, .ref s)] C iX9_isSame_500 rfl rfl (by decide) rfl ?_
                rw [dn_step hk hae]
                refine J_goto 104 C iX9_isSame_503 rfl ?_
                refine J_lvm [(7, .int (dnI (toN Z) (k + 1))), (6, .ref n1), (5, .int (opI (wrD (fun a => caN p h f t (toN Z) a) (toN Z) (k + 1)))), (4, .int (opI (wrD (fun a => loN p h f t (toN Z) a) (toN Z) (k + 1)))), (3, .int (nI (ctD (fun a => decide (loN p h f t (toN Z) a = 0)) (toN Z) (k + 1)))), (2, .int (nI (toN Z))), (1, .ref (x 0)), (0, .ref s)] rfl ?_
                refine J_room (rc2 := 50 + 500 * (9 - (k + 1))) (rs2 := 300 + 3000 * (9 - (k + 1))) (by omega) (by omega) ?_
                exact ih (wv3) hH
              · rintro q wv3 hq0 hq hH ihq
                refine J_room (rc2 := 18 + 1 * (18 * (24 - (q + 1)) + (10 + 1 * (50 + 500 * (9 - (k + 1)))))) (rs2 := 108 + 1 * (108 * (24 - (q + 1)) + (60 + 1 * (300 + 3000 * (9 - (k + 1)))))) (by omega) (by omega) ?_
                refine J_iload C iX9_isSame_334 rfl ?_
                refine J_bipush 24 C iX9_isSame_336 rfl ?_
                refine J_icmpge 500 C iX9_isSame_338 rfl (fun h338 => absurd h338 (nI_ge (a := q) (b := 24) (by omega) (by decide))) (fun h338 => ?_)
                refine J_alt (ι := va_W) (P := fun w9 => CI Z x (toN Z) u tm er dy ca pP pH pF pT op f1 f2 l0 hh c0 c1 c2 c3 tb w9) (9 + 1 * (18 * (24 - (q + 1)) + (10 + 1 * (50 + 500 * (9 - (k + 1)))))) (54 + 1 * (108 * (24 - (q + 1)) + (60 + 1 * (300 + 3000 * (9 - (k + 1)))))) 448 (fun _ => [(9, .int (nI q)), (3, .int (nI (ctD (fun a => decide (loN p h f t (toN Z) a = 0)) (toN Z) (k + 1)))), (8, .ref (rw a)), (7, .int (nI a)), (6, .ref n1), (5, .int (opI (wrD (fun a => caN p h f t (toN Z) a) (toN Z) (k + 1)))), (4, .int (opI (wrD (fun a => loN p h f t (toN Z) a) (toN Z) (k + 1)))), (2, .int (nI (toN Z))), (1, .ref (x 0)), (0, .ref s)]) (fun _ => []) (fun w9 => (((((arrI Z n1 24 (fun i => if i < q + 1 then nI (ctD ((fun k a => dkN p h f t (toN Z) a k) i) (toN Z) (k + 1)) else nI (ctD ((fun k a => dkN p h f t (toN Z) a k) i) (toN Z) k)) ++ wSim Z s (toN Z) (toM Z) hA lA oA tA eA (fun j => some (rw j)) (fun j => some (lr j)) fo ft fe dy ca) ++ wRw Z (toN Z) rw p h f t) ++ wPl Z L) ++ wLr Z (toM Z) lr (toK Z) (toV Z)) ++ w9)) (fun w19 hC19 => ?_) (fun hk448 => ?_)
                · refine J_iload C iX9_isSame_448 rfl ?_
                  refine J_iload C iX9_isSame_450 rfl ?_
                  refine J_iadd C iX9_isSame_452 ?_
                  rw [show (nI q) + (nI a) = nI (q + a) from nI_add _ _]
                  refine J_iconst 3 C iX9_isSame_453 rfl ?_
                  refine J_irem C iX9_isSame_454 (by decide) ?_
                  rw [show ((nI (q + a)) - (nI (q + a)) / 3 * 3 : Int32) = nI ((q + a) % 3) from pk_rem (a := (q + a)) (d := 3) (by omega) (by omega) (by omega)]
                  refine J_istore [(11, .int (nI ((q + a) % 3))), (9, .int (nI q)), (3, .int (nI (ctD (fun a => decide (loN p h f t (toN Z) a = 0)) (toN Z) (k + 1)))), (8, .ref (rw a)), (7, .int (nI a)), (6, .ref n1), (5, .int (opI (wrD (fun a => caN p h f t (toN Z) a) (toN Z) (k + 1)))), (4, .int (opI (wrD (fun a => loN p h f t (toN Z) a) (toN Z) (k + 1)))), (2, .int (nI (toN Z))), (1, .ref (x 0)), (0, .ref s)] C iX9_isSame_455 (by decide) rfl ?_
                  refine J_room (rc2 := 3 * (3 - 0) + (0 + 1 * (18 * (24 - (q + 1)) + (10 + 1 * (50 + 500 * (9 - (k + 1))))))) (rs2 := 18 * (3 - 0) + (0 + 1 * (108 * (24 - (q + 1)) + (60 + 1 * (300 + 3000 * (9 - (k + 1))))))) (by omega) (by omega) ?_
                  refine J_lvm [(11, .int (nI ((q + a) % 3 + 3 * 0))), (9, .int (nI q)), (3, .int (nI (ctD (fun a => decide (loN p h f t (toN Z) a = 0)) (toN Z) (k + 1)))), (8, .ref (rw a)), (7, .int (nI a)), (6, .ref n1), (5, .int (opI (wrD (fun a => caN p h f t (toN Z) a) (toN Z) (k + 1)))), (4, .int (opI (wrD (fun a => loN p h f t (toN Z) a) (toN Z) (k + 1)))), (2, .int (nI (toN Z))), (1, .ref (x 0)), (0, .ref s)] (by rfl) ?_
                  refine J_forR (σ := va_W) (fun c => 3 * (3 - c) + (0 + 1 * (18 * (24 - (q + 1)) + (10 + 1 * (50 + 500 * (9 - (k + 1))))))) (fun c => 18 * (3 - c) + (0 + 1 * (108 * (24 - (q + 1)) + (60 + 1 * (300 + 3000 * (9 - (k + 1))))))) (fun c q9 => [(11, .int (nI ((q + a) % 3 + 3 * c))), (9, .int (nI q)), (3, .int (nI (ctD (fun a => decide (loN p h f t (toN Z) a = 0)) (toN Z) (k + 1)))), (8, .ref (rw a)), (7, .int (nI a)), (6, .ref n1), (5, .int (opI (wrD (fun a => caN p h f t (toN Z) a) (toN Z) (k + 1)))), (4, .int (opI (wrD (fun a => loN p h f t (toN Z) a) (toN Z) (k + 1)))), (2, .int (nI (toN Z))), (1, .ref (x 0)), (0, .ref s)]) (fun c q9 => (((((arrI Z n1 24 (fun i => if i < q + 1 then nI (ctD ((fun k a => dkN p h f t (toN Z) a k) i) (toN Z) (k + 1)) else nI (ctD ((fun k a => dkN p h f t (toN Z) a k) i) (toN Z) k)) ++ wSim Z s (toN Z) (toM Z) hA lA oA tA eA (fun j => some (rw j)) (fun j => some (lr j)) fo ft fe dy ca) ++ wRw Z (toN Z) rw p h f t) ++ wPl Z L) ++ wLr Z (toM Z) lr (toK Z) (toV Z)) ++ q9)) (fun c q9 => CI Z x (toN Z) u tm er dy ca pP pH pF pT op f1 f2 l0 hh c0 c1 c2 c3 tb q9) ((toN Z + 2 - (q + a) % 3) / 3) 0 (w19) (by omega) hC19 ?_ ?_
                  · rintro wv4 hS
                    refine J_room (rc2 := 0 + 1 * (18 * (24 - (q + 1)) + (10 + 1 * (50 + 500 * (9 - (k + 1)))))) (rs2 := 0 + 1 * (108 * (24 - (q + 1)) + (60 + 1 * (300 + 3000 * (9 - (k + 1)))))) (by omega) (by omega) ?_
                    refine J_iload C iX9_isSame_457 rfl ?_
                    refine J_iload_n C iX9_isSame_459 rfl rfl ?_
                    refine J_icmpge 494 C iX9_isSame_460 rfl (fun h460 => ?_) (fun h460 => absurd (nI_le (a := toN Z) (b := (q + a) % 3 + 3 * ((toN Z + 2 - (q + a) % 3) / 3)) (by omega) (by omega)) h460)
                    refine J_iinc ((nI q) + 1) [(9, .int ((nI q) + 1)), (11, .int (nI ((q + a) % 3 + 3 * ((toN Z + 2 - (q + a) % 3) / 3)))), (3, .int (nI (ctD (fun a => decide (loN p h f t (toN Z) a = 0)) (toN Z) (k + 1)))), (8, .ref (rw a)), (7, .int (nI a)), (6, .ref n1), (5, .int (opI (wrD (fun a => caN p h f t (toN Z) a) (toN Z) (k + 1)))), (4, .int (opI (wrD (fun a => loN p h f t (toN Z) a) (toN Z) (k + 1)))), (2, .int (nI (toN Z))), (1, .ref (x 0)), (0, .ref s)] C iX9_isSame_494 rfl rfl (by decide) rfl ?_
                    rw [show (nI q) + 1 = nI (q + 1) from nI_add _ _]
                    refine J_goto 334 C iX9_isSame_497 rfl ?_
                    refine J_lvm [(9, .int (nI (q + 1))), (3, .int (nI (ctD (fun a => decide (loN p h f t (toN Z) a = 0)) (toN Z) (k + 1)))), (8, .ref (rw a)), (7, .int (nI a)), (6, .ref n1), (5, .int (opI (wrD (fun a => caN p h f t (toN Z) a) (toN Z) (k + 1)))), (4, .int (opI (wrD (fun a => loN p h f t (toN Z) a) (toN Z) (k + 1)))), (2, .int (nI (toN Z))), (1, .ref (x 0)), (0, .ref s)] rfl ?_
                    refine J_room (rc2 := 18 * (24 - (q + 1)) + (10 + 1 * (50 + 500 * (9 - (k + 1))))) (rs2 := 108 * (24 - (q + 1)) + (60 + 1 * (300 + 3000 * (9 - (k + 1))))) (by omega) (by omega) ?_
                    exact ihq (wv4) hS
                  · rintro c wv4 hc0 hc hS ihc
                    refine J_room (rc2 := 3 + 1 * (3 * (3 - (c + 1)) + (0 + 1 * (18 * (24 - (q + 1)) + (10 + 1 * (50 + 500 * (9 - (k + 1)))))))) (rs2 := 18 + 1 * (18 * (3 - (c + 1)) + (0 + 1 * (108 * (24 - (q + 1)) + (60 + 1 * (300 + 3000 * (9 - (k + 1)))))))) (by omega) (by omega) ?_
                    refine J_iload C iX9_isSame_457 rfl ?_
                    refine J_iload_n C iX9_isSame_459 rfl rfl ?_
                    refine J_icmpge 494 C iX9_isSame_460 rfl (fun h460 => absurd h460 (nI_ge (a := (q + a) % 3 + 3 * c) (b := toN Z) (by omega) (by omega))) (fun h460 => ?_)
                    refine J_aload_n C iX9_isSame_463 rfl rfl ?_
                    refine J_iload C iX9_isSame_464 rfl ?_
                    refine J_iload C iX9_isSame_466 rfl ?_
                    refine J_iload C iX9_isSame_468 rfl ?_
                    obtain ⟨fs20, hf20⟩ := CI.head hS
                    refine J_room (rc2 := 3 + (0 + 1 * (3 * (3 - (c + 1)) + (0 + 1 * (18 * (24 - (q + 1)) + (10 + 1 * (50 + 500 * (9 - (k + 1))))))))) (rs2 := 18 + (0 + 1 * (18 * (3 - (c + 1)) + (0 + 1 * (108 * (24 - (q + 1)) + (60 + 1 * (300 + 3000 * (9 - (k + 1))))))))) (by omega) (by omega) ?_
                    refine J_cVb (As := [.int (nI a), .int (nI ((q + a) % 3 + 3 * c)), .int (nI q)]) (st := []) (rc2 := 0 + 1 * (3 * (3 - (c + 1)) + (0 + 1 * (18 * (24 - (q + 1)) + (10 + 1 * (50 + 500 * (9 - (k + 1)))))))) (rs2 := 0 + 1 * (18 * (3 - (c + 1)) + (0 + 1 * (108 * (24 - (q + 1)) + (60 + 1 * (300 + 3000 * (9 - (k + 1)))))))) (w0 := (wv4)) (q0 := 0) C iX9_isSame_470 lm_X9_132 yc_X8_shades yv_X8_shades (k_shades hl (b := a) (a := ((q + a) % 3 + 3 * c)) (k := q) hS eq0 ok0 (by omega) (by omega) (by omega)) rfl rfl hf20 ((((arrI Z n1 24 (fun i => if i < q + 1 then nI (ctD ((fun k a => dkN p h f t (toN Z) a k) i) (toN Z) (k + 1)) else nI (ctD ((fun k a => dkN p h f t (toN Z) a k) i) (toN Z) k)) ++ wSim Z s (toN Z) (toM Z) hA lA oA tA eA (fun j => some (rw j)) (fun j => some (lr j)) fo ft fe dy ca) ++ wRw Z (toN Z) rw p h f t) ++ wPl Z L) ++ wLr Z (toM Z) lr (toK Z) (toV Z)) [] (by simp only [List.append_assoc, List.append_nil, List.nil_append]) rfl ⟨Nat.le_of_ble_eq_true rfl, Nat.le_of_ble_eq_true rfl⟩ (Nat.le_of_ble_eq_true rfl) rfl rfl ?_
                    rintro _ w20 ⟨rfl, hC20⟩
                    refine J_st (.int (b2i (shB p h f t a ((q + a) % 3 + 3 * c) q)) :: []) rfl ?_
                    refine J_ws (((((arrI Z n1 24 (fun i => if i < q + 1 then nI (ctD ((fun k a => dkN p h f t (toN Z) a k) i) (toN Z) (k + 1)) else nI (ctD ((fun k a => dkN p h f t (toN Z) a k) i) (toN Z) k)) ++ wSim Z s (toN Z) (toM Z) hA lA oA tA eA (fun j => some (rw j)) (fun j => some (lr j)) fo ft fe dy ca) ++ wRw Z (toN Z) rw p h f t) ++ wPl Z L) ++ wLr Z (toM Z) lr (toK Z) (toV Z)) ++ w20) (by simp only [List.append_assoc, List.append_nil, List.nil_append]) ?_
                    refine J_aload_n C iX9_isSame_473 rfl rfl ?_
                    refine J_iload C iX9_isSame_474 rfl ?_
                    refine J_iload C iX9_isSame_476 rfl ?_
                    refine J_iload C iX9_isSame_478 rfl ?_
                    refine J_cVb (As := [.int (nI a), .int (nI ((q + a) % 3 + 3 * c)), .int (nI q)]) (st := .int (b2i (shB p h f t a ((q + a) % 3 + 3 * c) q)) :: []) (rc2 := 0 + 1 * (3 * (3 - (c + 1)) + (0 + 1 * (18 * (24 - (q + 1)) + (10 + 1 * (50 + 500 * (9 - (k + 1)))))))) (rs2 := 0 + 1 * (18 * (3 - (c + 1)) + (0 + 1 * (108 * (24 - (q + 1)) + (60 + 1 * (300 + 3000 * (9 - (k + 1)))))))) (w0 := (wSim Z s (toN Z) (toM Z) hA lA oA tA eA (fun j => some (rw j)) (fun j => some (lr j)) fo ft fe dy ca ++ wRw Z (toN Z) rw p h f t)) (q0 := 0) C iX9_isSame_480 lm_X9_49 yc_X9_shades yv_X9_shades (c_X9_shades (b := a) (a := ((q + a) % 3 + 3 * c)) (k := q) ok0 (by omega) (by omega) (by omega)) rfl rfl rfl (arrI Z n1 24 (fun i => if i < q + 1 then nI (ctD ((fun k a => dkN p h f t (toN Z) a k) i) (toN Z) (k + 1)) else nI (ctD ((fun k a => dkN p h f t (toN Z) a k) i) (toN Z) k))) ((wPl Z L ++ wLr Z (toM Z) lr (toK Z) (toV Z)) ++ w20) (by simp only [List.append_assoc, List.append_nil, List.nil_append]) rfl ⟨Nat.le_of_ble_eq_true rfl, Nat.le_of_ble_eq_true rfl⟩ (Nat.le_of_ble_eq_true rfl) (Nat.zero_add _).symm (Nat.zero_add _).symm ?_
                    rintro _ _ ⟨rfl, rfl⟩
                    refine J_st (.int (b2i (shB p h f t a ((q + a) % 3 + 3 * c) q)) :: .int (b2i (shB p h f t a ((q + a) % 3 + 3 * c) q)) :: []) rfl ?_
                    refine J_ws (((((arrI Z n1 24 (fun i => if i < q + 1 then nI (ctD ((fun k a => dkN p h f t (toN Z) a k) i) (toN Z) (k + 1)) else nI (ctD ((fun k a => dkN p h f t (toN Z) a k) i) (toN Z) k)) ++ wSim Z s (toN Z) (toM Z) hA lA oA tA eA (fun j => some (rw j)) (fun j => some (lr j)) fo ft fe dy ca) ++ wRw Z (toN Z) rw p h f t) ++ wPl Z L) ++ wLr Z (toM Z) lr (toK Z) (toV Z)) ++ w20) (by simp only [List.append_assoc, List.append_nil, List.nil_append]) ?_
                    refine J_icmpeq 488 C iX9_isSame_483 rfl (fun h483 => ?_) (fun h483 => absurd rfl h483)
                    refine J_iinc ((nI ((q + a) % 3 + 3 * c)) + 3) [(11, .int ((nI ((q + a) % 3 + 3 * c)) + 3)), (9, .int (nI q)), (3, .int (nI (ctD (fun a => decide (loN p h f t (toN Z) a = 0)) (toN Z) (k + 1)))), (8, .ref (rw a)), (7, .int (nI a)), (6, .ref n1), (5, .int (opI (wrD (fun a => caN p h f t (toN Z) a) (toN Z) (k + 1)))), (4, .int (opI (wrD (fun a => loN p h f t (toN Z) a) (toN Z) (k + 1)))), (2, .int (nI (toN Z))), (1, .ref (x 0)), (0, .ref s)] C iX9_isSame_488 rfl rfl (by decide) rfl ?_
                    rw [show (nI ((q + a) % 3 + 3 * c)) + 3 = nI (((q + a) % 3 + 3 * c) + 3) from nI_add _ _]
                    refine J_goto 457 C iX9_isSame_491 rfl ?_
                    refine J_lvm [(11, .int (nI (((q + a) % 3 + 3 * c) + 3))), (9, .int (nI q)), (3, .int (nI (ctD (fun a => decide (loN p h f t (toN Z) a = 0)) (toN Z) (k + 1)))), (8, .ref (rw a)), (7, .int (nI a)), (6, .ref n1), (5, .int (opI (wrD (fun a => caN p h f t (toN Z) a) (toN Z) (k + 1)))), (4, .int (opI (wrD (fun a => loN p h f t (toN Z) a) (toN Z) (k + 1)))), (2, .int (nI (toN Z))), (1, .ref (x 0)), (0, .ref s)] rfl ?_
                    refine J_room (rc2 := 3 * (3 - (c + 1)) + (0 + 1 * (18 * (24 - (q + 1)) + (10 + 1 * (50 + 500 * (9 - (k + 1))))))) (rs2 := 18 * (3 - (c + 1)) + (0 + 1 * (108 * (24 - (q + 1)) + (60 + 1 * (300 + 3000 * (9 - (k + 1))))))) (by omega) (by omega) ?_
                    exact ihc (w20) hC20
                · refine J_aload_n C iX9_isSame_341 rfl rfl ?_
                  refine J_iload C iX9_isSame_342 rfl ?_
                  refine J_iload C iX9_isSame_344 rfl ?_
                  refine J_cVb (As := [.int (nI a), .int (nI q)]) (st := []) (rc2 := 18 + 1 * (18 * (24 - (q + 1)) + (10 + 1 * (50 + 500 * (9 - (k + 1)))))) (rs2 := 108 + 1 * (108 * (24 - (q + 1)) + (60 + 1 * (300 + 3000 * (9 - (k + 1)))))) (w0 := (wSim Z s (toN Z) (toM Z) hA lA oA tA eA (fun j => some (rw j)) (fun j => some (lr j)) fo ft fe dy ca ++ wRw Z (toN Z) rw p h f t)) (q0 := 0) C iX9_isSame_346 lm_X9_53 yc_X9_shadedBy yv_X9_shadedBy (c_X9_shadedBy (a := a) (k := q) ok0 (by omega) (by omega)) rfl rfl rfl (arrI Z n1 24 (fun i => if i < q then nI (ctD ((fun k a => dkN p h f t (toN Z) a k) i) (toN Z) (k + 1)) else nI (ctD ((fun k a => dkN p h f t (toN Z) a k) i) (toN Z) k))) ((wPl Z L ++ wLr Z (toM Z) lr (toK Z) (toV Z)) ++ wv3) (by simp only [List.append_assoc, List.append_nil, List.nil_append]) rfl ⟨Nat.le_of_ble_eq_true rfl, Nat.le_of_ble_eq_true rfl⟩ (Nat.le_of_ble_eq_true rfl) (Nat.zero_add _).symm (Nat.zero_add _).symm ?_
                  rintro _ _ ⟨rfl, rfl⟩
                  refine J_st (.int (opI (nrN p h f t a q (toN Z)).1) :: []) rfl ?_
                  refine J_ws (((((arrI Z n1 24 (fun i => if i < q then nI (ctD ((fun k a => dkN p h f t (toN Z) a k) i) (toN Z) (k + 1)) else nI (ctD ((fun k a => dkN p h f t (toN Z) a k) i) (toN Z) k)) ++ wSim Z s (toN Z) (toM Z) hA lA oA tA eA (fun j => some (rw j)) (fun j => some (lr j)) fo ft fe dy ca) ++ wRw Z (toN Z) rw p h f t) ++ wPl Z L) ++ wLr Z (toM Z) lr (toK Z) (toV Z)) ++ wv3) (by simp only [List.append_assoc, List.append_nil, List.nil_append]) ?_
                  refine J_istore [(10, .int (opI (nrN p h f t a q (toN Z)).1)), (9, .int (nI q)), (3, .int (nI (ctD (fun a => decide (loN p h f t (toN Z) a = 0)) (toN Z) (k + 1)))), (8, .ref (rw a)), (7, .int (nI a)), (6, .ref n1), (5, .int (opI (wrD (fun a => caN p h f t (toN Z) a) (toN Z) (k + 1)))), (4, .int (opI (wrD (fun a => loN p h f t (toN Z) a) (toN Z) (k + 1)))), (2, .int (nI (toN Z))), (1, .ref (x 0)), (0, .ref s)] C iX9_isSame_349 (by decide) rfl ?_
                  cases hdk : dkN p h f t (toN Z) a q
                  · refine J_aload C iX9_isSame_351 rfl ?_
                    refine J_iload C iX9_isSame_353 rfl ?_
                    refine J_dup2 C iX9_isSame_355 rfl rfl ?_
                    refine J_iald 0 C iX9_isSame_356 rfl (vp_in_nI (n := q) (by omega) (by omega)) ?_
                    rw [nI_clamp (n := q) (by omega)]
                    refine J_iload C iX9_isSame_357 rfl ?_
                    refine J_iflt 366 C iX9_isSame_359 rfl (fun h359 => ?_) (fun h359 => absurd (op_neg hdk) h359)
                    refine J_iconst 0 C iX9_isSame_366 rfl ?_
                    refine J_iadd C iX9_isSame_367 ?_
                    refine J_iast (((((arrI Z n1 24 (upd (fun i => if i < q then nI (ctD ((fun k a => dkN p h f t (toN Z) a k) i) (toN Z) (k + 1)) else nI (ctD ((fun k a => dkN p h f t (toN Z) a k) i) (toN Z) k)) (nI q).toNatClampNeg (((fun i => if i < q then nI (ctD ((fun k a => dkN p h f t (toN Z) a k) i) (toN Z) (k + 1)) else nI (ctD ((fun k a => dkN p h f t (toN Z) a k) i) (toN Z) k)) q) + 0)) ++ wSim Z s (toN Z) (toM Z) hA lA oA tA eA (fun j => some (rw j)) (fun j => some (lr j)) fo ft fe dy ca) ++ wRw Z (toN Z) rw p h f t) ++ wPl Z L) ++ wLr Z (toM Z) lr (toK Z) (toV Z)) ++ wv3) 0 C iX9_isSame_368 rfl (vp_in_nI (n := q) (by omega) (by omega)) rfl ?_
                    rw [nI_clamp (n := q) (by omega)]
                    rw [show (((fun i => if i < q then nI (ctD ((fun k a => dkN p h f t (toN Z) a k) i) (toN Z) (k + 1)) else nI (ctD ((fun k a => dkN p h f t (toN Z) a k) i) (toN Z) k)) q) + 0 : Int32) = nI (ctD ((fun k a => dkN p h f t (toN Z) a k) q) (toN Z) k + 0) by dsimp only; rw [if_neg (Nat.lt_irrefl _)]; exact nI_add _ 0]
                    rw [drk_up (y := (fun k a => dkN p h f t (toN Z) a k)) hq _ (by dsimp only; rw [← hae, hdk]; rfl)]
                    refine J_aload_n C iX9_isSame_369 rfl rfl ?_
                    refine J_iload C iX9_isSame_370 rfl ?_
                    refine J_iload C iX9_isSame_372 rfl ?_
                    obtain ⟨fs21, hf21⟩ := CI.head hH
                    refine J_room (rc2 := 2 + (16 + 1 * (18 * (24 - (q + 1)) + (10 + 1 * (50 + 500 * (9 - (k + 1))))))) (rs2 := 12 + (96 + 1 * (108 * (24 - (q + 1)) + (60 + 1 * (300 + 3000 * (9 - (k + 1))))))) (by omega) (by omega) ?_
                    refine J_cVb (As := [.int (nI a), .int (nI q)]) (st := []) (rc2 := 16 + 1 * (18 * (24 - (q + 1)) + (10 + 1 * (50 + 500 * (9 - (k + 1)))))) (rs2 := 96 + 1 * (108 * (24 - (q + 1)) + (60 + 1 * (300 + 3000 * (9 - (k + 1)))))) (w0 := (wv3)) (q0 := 0) C iX9_isSame_374 lm_X9_121 yc_X8_isInTheDark yv_X8_isInTheDark (k_isInTheDark hl (a := a) (k := q) hH eq0 ok0 (by omega) (by omega)) rfl rfl hf21 ((((arrI Z n1 24 (fun i => if i < q + 1 then nI (ctD ((fun k a => dkN p h f t (toN Z) a k) i) (toN Z) (k + 1)) else nI (ctD ((fun k a => dkN p h f t (toN Z) a k) i) (toN Z) k)) ++ wSim Z s (toN Z) (toM Z) hA lA oA tA eA (fun j => some (rw j)) (fun j => some (lr j)) fo ft fe dy ca) ++ wRw Z (toN Z) rw p h f t) ++ wPl Z L) ++ wLr Z (toM Z) lr (toK Z) (toV Z)) [] (by simp only [List.append_assoc, List.append_nil, List.nil_append]) rfl ⟨Nat.le_of_ble_eq_true rfl, Nat.le_of_ble_eq_true rfl⟩ (Nat.le_of_ble_eq_true rfl) rfl rfl ?_
                    rintro _ w21 ⟨rfl, hC21⟩
                    refine J_st (.int (b2i (dkN p h f t (toN Z) a q)) :: []) rfl ?_
                    refine J_ws (((((arrI Z n1 24 (fun i => if i < q + 1 then nI (ctD ((fun k a => dkN p h f t (toN Z) a k) i) (toN Z) (k + 1)) else nI (ctD ((fun k a => dkN p h f t (toN Z) a k) i) (toN Z) k)) ++ wSim Z s (toN Z) (toM Z) hA lA oA tA eA (fun j => some (rw j)) (fun j => some (lr j)) fo ft fe dy ca) ++ wRw Z (toN Z) rw p h f t) ++ wPl Z L) ++ wLr Z (toM Z) lr (toK Z) (toV Z)) ++ w21) (by simp only [List.append_assoc, List.append_nil, List.nil_append]) ?_
                    refine J_iload C iX9_isSame_377 rfl ?_
                    refine J_iflt 386 C iX9_isSame_379 rfl (fun h379 => ?_) (fun h379 => absurd (op_neg hdk) h379)
                    refine J_iconst 0 C iX9_isSame_386 rfl ?_
                    refine J_icmpne 446 C iX9_isSame_387 rfl (fun h387 => absurd (show b2i (dkN p h f t (toN Z) a q) = 0 by rw [hdk]; rfl) h387) (fun h387 => ?_)
                    refine J_iload C iX9_isSame_390 rfl ?_
                    refine J_iflt 408 C iX9_isSame_392 rfl (fun h392 => ?_) (fun h392 => absurd (op_neg hdk) h392)
                    refine J_aload_n C iX9_isSame_408 rfl rfl ?_
                    refine J_iload C iX9_isSame_409 rfl ?_
                    refine J_iload C iX9_isSame_411 rfl ?_
                    obtain ⟨fs22, hf22⟩ := CI.head hC21
                    refine J_room (rc2 := 2 + (14 + 1 * (18 * (24 - (q + 1)) + (10 + 1 * (50 + 500 * (9 - (k + 1))))))) (rs2 := 12 + (84 + 1 * (108 * (24 - (q + 1)) + (60 + 1 * (300 + 3000 * (9 - (k + 1))))))) (by omega) (by omega) ?_
                    refine J_cVb (As := [.int (nI a), .int (nI q)]) (st := []) (rc2 := 14 + 1 * (18 * (24 - (q + 1)) + (10 + 1 * (50 + 500 * (9 - (k + 1)))))) (rs2 := 84 + 1 * (108 * (24 - (q + 1)) + (60 + 1 * (300 + 3000 * (9 - (k + 1)))))) (w0 := (w21)) (q0 := 0) C iX9_isSame_413 lm_X9_126 yc_X8_heightAt yv_X8_heightAt (k_heightAt hl (a := a) (k := q) hC21 eq0 ok0 (by omega) (by omega)) rfl rfl hf22 ((((arrI Z n1 24 (fun i => if i < q + 1 then nI (ctD ((fun k a => dkN p h f t (toN Z) a k) i) (toN Z) (k + 1)) else nI (ctD ((fun k a => dkN p h f t (toN Z) a k) i) (toN Z) k)) ++ wSim Z s (toN Z) (toM Z) hA lA oA tA eA (fun j => some (rw j)) (fun j => some (lr j)) fo ft fe dy ca) ++ wRw Z (toN Z) rw p h f t) ++ wPl Z L) ++ wLr Z (toM Z) lr (toK Z) (toV Z)) [] (by simp only [List.append_assoc, List.append_nil, List.nil_append]) rfl ⟨Nat.le_of_ble_eq_true rfl, Nat.le_of_ble_eq_true rfl⟩ (Nat.le_of_ble_eq_true rfl) rfl rfl ?_
                    rintro _ w22 ⟨rfl, hC22⟩
                    refine J_st (.int (nI (tlN h f t a q)) :: []) rfl ?_
                    refine J_ws (((((arrI Z n1 24 (fun i => if i < q + 1 then nI (ctD ((fun k a => dkN p h f t (toN Z) a k) i) (toN Z) (k + 1)) else nI (ctD ((fun k a => dkN p h f t (toN Z) a k) i) (toN Z) k)) ++ wSim Z s (toN Z) (toM Z) hA lA oA tA eA (fun j => some (rw j)) (fun j => some (lr j)) fo ft fe dy ca) ++ wRw Z (toN Z) rw p h f t) ++ wPl Z L) ++ wLr Z (toM Z) lr (toK Z) (toV Z)) ++ w22) (by simp only [List.append_assoc, List.append_nil, List.nil_append]) ?_
                    refine J_aload_n C iX9_isSame_416 rfl rfl ?_
                    refine J_iload C iX9_isSame_417 rfl ?_
                    refine J_iload C iX9_isSame_419 rfl ?_
                    refine J_cVb (As := [.int (nI a), .int (nI q)]) (st := .int (nI (tlN h f t a q)) :: []) (rc2 := 14 + 1 * (18 * (24 - (q + 1)) + (10 + 1 * (50 + 500 * (9 - (k + 1)))))) (rs2 := 84 + 1 * (108 * (24 - (q + 1)) + (60 + 1 * (300 + 3000 * (9 - (k + 1)))))) (w0 := (wSim Z s (toN Z) (toM Z) hA lA oA tA eA (fun j => some (rw j)) (fun j => some (lr j)) fo ft fe dy ca ++ wRw Z (toN Z) rw p h f t)) (q0 := 0) C iX9_isSame_421 lm_X9_42 yc_X9_tall yv_X9_tall (c_X9_tall (i := a) (k := q) ok0 (by omega) (by omega)) rfl rfl rfl (arrI Z n1 24 (fun i => if i < q + 1 then nI (ctD ((fun k a => dkN p h f t (toN Z) a k) i) (toN Z) (k + 1)) else nI (ctD ((fun k a => dkN p h f t (toN Z) a k) i) (toN Z) k))) ((wPl Z L ++ wLr Z (toM Z) lr (toK Z) (toV Z)) ++ w22) (by simp only [List.append_assoc, List.append_nil, List.nil_append]) rfl ⟨Nat.le_of_ble_eq_true rfl, Nat.le_of_ble_eq_true rfl⟩ (Nat.le_of_ble_eq_true rfl) (Nat.zero_add _).symm (Nat.zero_add _).symm ?_
                    rintro _ _ ⟨rfl, rfl⟩
                    refine J_st (.int (nI (tlN h f t a q)) :: .int (nI (tlN h f t a q)) :: []) rfl ?_
                    refine J_ws (((((arrI Z n1 24 (fun i => if i < q + 1 then nI (ctD ((fun k a => dkN p h f t (toN Z) a k) i) (toN Z) (k + 1)) else nI (ctD ((fun k a => dkN p h f t (toN Z) a k) i) (toN Z) k)) ++ wSim Z s (toN Z) (toM Z) hA lA oA tA eA (fun j => some (rw j)) (fun j => some (lr j)) fo ft fe dy ca) ++ wRw Z (toN Z) rw p h f t) ++ wPl Z L) ++ wLr Z (toM Z) lr (toK Z) (toV Z)) ++ w22) (by simp only [List.append_assoc, List.append_nil, List.nil_append]) ?_
                    refine J_icmpne 446 C iX9_isSame_424 rfl (fun h424 => absurd rfl h424) (fun h424 => ?_)
                    refine J_aload_n C iX9_isSame_427 rfl rfl ?_
                    refine J_iload C iX9_isSame_428 rfl ?_
                    refine J_iload C iX9_isSame_430 rfl ?_
                    obtain ⟨fs23, hf23⟩ := CI.head hC22
                    refine J_room (rc2 := 2 + (12 + 1 * (18 * (24 - (q + 1)) + (10 + 1 * (50 + 500 * (9 - (k + 1))))))) (rs2 := 12 + (72 + 1 * (108 * (24 - (q + 1)) + (60 + 1 * (300 + 3000 * (9 - (k + 1))))))) (by omega) (by omega) ?_
                    refine J_cVb (As := [.int (nI a), .int (nI q)]) (st := []) (rc2 := 12 + 1 * (18 * (24 - (q + 1)) + (10 + 1 * (50 + 500 * (9 - (k + 1)))))) (rs2 := 72 + 1 * (108 * (24 - (q + 1)) + (60 + 1 * (300 + 3000 * (9 - (k + 1)))))) (w0 := (w22)) (q0 := 0) C iX9_isSame_432 lm_X9_129 yc_X8_shadowOf yv_X8_shadowOf (k_shadowOf hl (a := a) (k := q) hC22 eq0 ok0 (by omega) (by omega)) rfl rfl hf23 ((((arrI Z n1 24 (fun i => if i < q + 1 then nI (ctD ((fun k a => dkN p h f t (toN Z) a k) i) (toN Z) (k + 1)) else nI (ctD ((fun k a => dkN p h f t (toN Z) a k) i) (toN Z) k)) ++ wSim Z s (toN Z) (toM Z) hA lA oA tA eA (fun j => some (rw j)) (fun j => some (lr j)) fo ft fe dy ca) ++ wRw Z (toN Z) rw p h f t) ++ wPl Z L) ++ wLr Z (toM Z) lr (toK Z) (toV Z)) [] (by simp only [List.append_assoc, List.append_nil, List.nil_append]) rfl ⟨Nat.le_of_ble_eq_true rfl, Nat.le_of_ble_eq_true rfl⟩ (Nat.le_of_ble_eq_true rfl) rfl rfl ?_
                    rintro _ w23 ⟨rfl, hC23⟩
                    refine J_st (.int (nI (rcN h f t a q)) :: []) rfl ?_
                    refine J_ws (((((arrI Z n1 24 (fun i => if i < q + 1 then nI (ctD ((fun k a => dkN p h f t (toN Z) a k) i) (toN Z) (k + 1)) else nI (ctD ((fun k a => dkN p h f t (toN Z) a k) i) (toN Z) k)) ++ wSim Z s (toN Z) (toM Z) hA lA oA tA eA (fun j => some (rw j)) (fun j => some (lr j)) fo ft fe dy ca) ++ wRw Z (toN Z) rw p h f t) ++ wPl Z L) ++ wLr Z (toM Z) lr (toK Z) (toV Z)) ++ w23) (by simp only [List.append_assoc, List.append_nil, List.nil_append]) ?_
                    refine J_aload_n C iX9_isSame_435 rfl rfl ?_
                    refine J_iload C iX9_isSame_436 rfl ?_
                    refine J_iload C iX9_isSame_438 rfl ?_
                    refine J_cVb (As := [.int (nI a), .int (nI q)]) (st := .int (nI (rcN h f t a q)) :: []) (rc2 := 12 + 1 * (18 * (24 - (q + 1)) + (10 + 1 * (50 + 500 * (9 - (k + 1)))))) (rs2 := 72 + 1 * (108 * (24 - (q + 1)) + (60 + 1 * (300 + 3000 * (9 - (k + 1)))))) (w0 := (wSim Z s (toN Z) (toM Z) hA lA oA tA eA (fun j => some (rw j)) (fun j => some (lr j)) fo ft fe dy ca ++ wRw Z (toN Z) rw p h f t)) (q0 := 0) C iX9_isSame_440 lm_X9_46 yc_X9_reach yv_X9_reach (c_X9_reach (i := a) (k := q) ok0 (by omega) (by omega)) rfl rfl rfl (arrI Z n1 24 (fun i => if i < q + 1 then nI (ctD ((fun k a => dkN p h f t (toN Z) a k) i) (toN Z) (k + 1)) else nI (ctD ((fun k a => dkN p h f t (toN Z) a k) i) (toN Z) k))) ((wPl Z L ++ wLr Z (toM Z) lr (toK Z) (toV Z)) ++ w23) (by simp only [List.append_assoc, List.append_nil, List.nil_append]) rfl ⟨Nat.le_of_ble_eq_true rfl, Nat.le_of_ble_eq_true rfl⟩ (Nat.le_of_ble_eq_true rfl) (Nat.zero_add _).symm (Nat.zero_add _).symm ?_
                    rintro _ _ ⟨rfl, rfl⟩
                    refine J_st (.int (nI (rcN h f t a q)) :: .int (nI (rcN h f t a q)) :: []) rfl ?_
                    refine J_ws (((((arrI Z n1 24 (fun i => if i < q + 1 then nI (ctD ((fun k a => dkN p h f t (toN Z) a k) i) (toN Z) (k + 1)) else nI (ctD ((fun k a => dkN p h f t (toN Z) a k) i) (toN Z) k)) ++ wSim Z s (toN Z) (toM Z) hA lA oA tA eA (fun j => some (rw j)) (fun j => some (lr j)) fo ft fe dy ca) ++ wRw Z (toN Z) rw p h f t) ++ wPl Z L) ++ wLr Z (toM Z) lr (toK Z) (toV Z)) ++ w23) (by simp only [List.append_assoc, List.append_nil, List.nil_append]) ?_
                    refine J_icmpeq 448 C iX9_isSame_443 rfl (fun h443 => ?_) (fun h443 => absurd rfl h443)
                    refine J_room (rc2 := 9 + 1 * (18 * (24 - (q + 1)) + (10 + 1 * (50 + 500 * (9 - (k + 1)))))) (rs2 := 54 + 1 * (108 * (24 - (q + 1)) + (60 + 1 * (300 + 3000 * (9 - (k + 1)))))) (by omega) (by omega) ?_
                    refine J_lvm [(9, .int (nI q)), (3, .int (nI (ctD (fun a => decide (loN p h f t (toN Z) a = 0)) (toN Z) (k + 1)))), (8, .ref (rw a)), (7, .int (nI a)), (6, .ref n1), (5, .int (opI (wrD (fun a => caN p h f t (toN Z) a) (toN Z) (k + 1)))), (4, .int (opI (wrD (fun a => loN p h f t (toN Z) a) (toN Z) (k + 1)))), (2, .int (nI (toN Z))), (1, .ref (x 0)), (0, .ref s)] rfl ?_
                    exact hk448 w23 hC23
                  · refine J_aload C iX9_isSame_351 rfl ?_
                    refine J_iload C iX9_isSame_353 rfl ?_
                    refine J_dup2 C iX9_isSame_355 rfl rfl ?_
                    refine J_iald 0 C iX9_isSame_356 rfl (vp_in_nI (n := q) (by omega) (by omega)) ?_
                    rw [nI_clamp (n := q) (by omega)]
                    refine J_iload C iX9_isSame_357 rfl ?_
                    refine J_iflt 366 C iX9_isSame_359 rfl (fun h359 => absurd h359 (op_pos (by omega) hdk)) (fun h359 => ?_)
                    refine J_iconst 1 C iX9_isSame_362 rfl ?_
                    refine J_goto 367 C iX9_isSame_363 rfl ?_
                    refine J_iadd C iX9_isSame_367 ?_
                    refine J_iast (((((arrI Z n1 24 (upd (fun i => if i < q then nI (ctD ((fun k a => dkN p h f t (toN Z) a k) i) (toN Z) (k + 1)) else nI (ctD ((fun k a => dkN p h f t (toN Z) a k) i) (toN Z) k)) (nI q).toNatClampNeg (((fun i => if i < q then nI (ctD ((fun k a => dkN p h f t (toN Z) a k) i) (toN Z) (k + 1)) else nI (ctD ((fun k a => dkN p h f t (toN Z) a k) i) (toN Z) k)) q) + 1)) ++ wSim Z s (toN Z) (toM Z) hA lA oA tA eA (fun j => some (rw j)) (fun j => some (lr j)) fo ft fe dy ca) ++ wRw Z (toN Z) rw p h f t) ++ wPl Z L) ++ wLr Z (toM Z) lr (toK Z) (toV Z)) ++ wv3) 0 C iX9_isSame_368 rfl (vp_in_nI (n := q) (by omega) (by omega)) rfl ?_
                    rw [nI_clamp (n := q) (by omega)]
                    rw [show (((fun i => if i < q then nI (ctD ((fun k a => dkN p h f t (toN Z) a k) i) (toN Z) (k + 1)) else nI (ctD ((fun k a => dkN p h f t (toN Z) a k) i) (toN Z) k)) q) + 1 : Int32) = nI (ctD ((fun k a => dkN p h f t (toN Z) a k) q) (toN Z) k + 1) by dsimp only; rw [if_neg (Nat.lt_irrefl _)]; exact nI_add _ 1]
                    rw [drk_up (y := (fun k a => dkN p h f t (toN Z) a k)) hq _ (by dsimp only; rw [← hae, hdk]; rfl)]
                    refine J_aload_n C iX9_isSame_369 rfl rfl ?_
                    refine J_iload C iX9_isSame_370 rfl ?_
                    refine J_iload C iX9_isSame_372 rfl ?_
                    obtain ⟨fs24, hf24⟩ := CI.head hH
                    refine J_room (rc2 := 2 + (16 + 1 * (18 * (24 - (q + 1)) + (10 + 1 * (50 + 500 * (9 - (k + 1))))))) (rs2 := 12 + (96 + 1 * (108 * (24 - (q + 1)) + (60 + 1 * (300 + 3000 * (9 - (k + 1))))))) (by omega) (by omega) ?_
                    refine J_cVb (As := [.int (nI a), .int (nI q)]) (st := []) (rc2 := 16 + 1 * (18 * (24 - (q + 1)) + (10 + 1 * (50 + 500 * (9 - (k + 1)))))) (rs2 := 96 + 1 * (108 * (24 - (q + 1)) + (60 + 1 * (300 + 3000 * (9 - (k + 1)))))) (w0 := (wv3)) (q0 := 0) C iX9_isSame_374 lm_X9_121 yc_X8_isInTheDark yv_X8_isInTheDark (k_isInTheDark hl (a := a) (k := q) hH eq0 ok0 (by omega) (by omega)) rfl rfl hf24 ((((arrI Z n1 24 (fun i => if i < q + 1 then nI (ctD ((fun k a => dkN p h f t (toN Z) a k) i) (toN Z) (k + 1)) else nI (ctD ((fun k a => dkN p h f t (toN Z) a k) i) (toN Z) k)) ++ wSim Z s (toN Z) (toM Z) hA lA oA tA eA (fun j => some (rw j)) (fun j => some (lr j)) fo ft fe dy ca) ++ wRw Z (toN Z) rw p h f t) ++ wPl Z L) ++ wLr Z (toM Z) lr (toK Z) (toV Z)) [] (by simp only [List.append_assoc, List.append_nil, List.nil_append]) rfl ⟨Nat.le_of_ble_eq_true rfl, Nat.le_of_ble_eq_true rfl⟩ (Nat.le_of_ble_eq_true rfl) rfl rfl ?_
                    rintro _ w24 ⟨rfl, hC24⟩
                    refine J_st (.int (b2i (dkN p h f t (toN Z) a q)) :: []) rfl ?_
                    refine J_ws (((((arrI Z n1 24 (fun i => if i < q + 1 then nI (ctD ((fun k a => dkN p h f t (toN Z) a k) i) (toN Z) (k + 1)) else nI (ctD ((fun k a => dkN p h f t (toN Z) a k) i) (toN Z) k)) ++ wSim Z s (toN Z) (toM Z) hA lA oA tA eA (fun j => some (rw j)) (fun j => some (lr j)) fo ft fe dy ca) ++ wRw Z (toN Z) rw p h f t) ++ wPl Z L) ++ wLr Z (toM Z) lr (toK Z) (toV Z)) ++ w24) (by simp only [List.append_assoc, List.append_nil, List.nil_append]) ?_
                    refine J_iload C iX9_isSame_377 rfl ?_
                    refine J_iflt 386 C iX9_isSame_379 rfl (fun h379 => absurd h379 (op_pos (by omega) hdk)) (fun h379 => ?_)
                    refine J_iconst 1 C iX9_isSame_382 rfl ?_
                    refine J_goto 387 C iX9_isSame_383 rfl ?_
                    refine J_icmpne 446 C iX9_isSame_387 rfl (fun h387 => absurd (show b2i (dkN p h f t (toN Z) a q) = 1 by rw [hdk]; rfl) h387) (fun h387 => ?_)
                    refine J_iload C iX9_isSame_390 rfl ?_
                    refine J_iflt 408 C iX9_isSame_392 rfl (fun h392 => absurd h392 (op_pos (by omega) hdk)) (fun h392 => ?_)
                    refine J_aload_n C iX9_isSame_395 rfl rfl ?_
                    refine J_iload C iX9_isSame_396 rfl ?_
                    refine J_iload C iX9_isSame_398 rfl ?_
                    obtain ⟨fs25, hf25⟩ := CI.head hC24
                    refine J_room (rc2 := 3 + (13 + 1 * (18 * (24 - (q + 1)) + (10 + 1 * (50 + 500 * (9 - (k + 1))))))) (rs2 := 18 + (78 + 1 * (108 * (24 - (q + 1)) + (60 + 1 * (300 + 3000 * (9 - (k + 1))))))) (by omega) (by omega) ?_
                    refine J_cVb (As := [.int (nI a), .int (nI q)]) (st := []) (rc2 := 13 + 1 * (18 * (24 - (q + 1)) + (10 + 1 * (50 + 500 * (9 - (k + 1)))))) (rs2 := 78 + 1 * (108 * (24 - (q + 1)) + (60 + 1 * (300 + 3000 * (9 - (k + 1)))))) (w0 := (w24)) (q0 := 0) C iX9_isSame_400 lm_X9_125 yc_X8_shadedBy yv_X8_shadedBy (k_shadedBy hl (a := a) (k := q) hC24 eq0 ok0 (by omega) (by omega) hdk) rfl rfl hf25 ((((arrI Z n1 24 (fun i => if i < q + 1 then nI (ctD ((fun k a => dkN p h f t (toN Z) a k) i) (toN Z) (k + 1)) else nI (ctD ((fun k a => dkN p h f t (toN Z) a k) i) (toN Z) k)) ++ wSim Z s (toN Z) (toM Z) hA lA oA tA eA (fun j => some (rw j)) (fun j => some (lr j)) fo ft fe dy ca) ++ wRw Z (toN Z) rw p h f t) ++ wPl Z L) ++ wLr Z (toM Z) lr (toK Z) (toV Z)) [] (by simp only [List.append_assoc, List.append_nil, List.nil_append]) rfl ⟨Nat.le_of_ble_eq_true rfl, Nat.le_of_ble_eq_true rfl⟩ (Nat.le_of_ble_eq_true rfl) rfl rfl ?_
                    rintro _ w25 ⟨rfl, hC25⟩
                    refine J_st (.int (opI (nrN p h f t a q (toN Z)).1) :: []) rfl ?_
                    refine J_ws (((((arrI Z n1 24 (fun i => if i < q + 1 then nI (ctD ((fun k a => dkN p h f t (toN Z) a k) i) (toN Z) (k + 1)) else nI (ctD ((fun k a => dkN p h f t (toN Z) a k) i) (toN Z) k)) ++ wSim Z s (toN Z) (toM Z) hA lA oA tA eA (fun j => some (rw j)) (fun j => some (lr j)) fo ft fe dy ca) ++ wRw Z (toN Z) rw p h f t) ++ wPl Z L) ++ wLr Z (toM Z) lr (toK Z) (toV Z)) ++ w25) (by simp only [List.append_assoc, List.append_nil, List.nil_append]) ?_
                    refine J_iload C iX9_isSame_403 rfl ?_
                    refine J_icmpne 446 C iX9_isSame_405 rfl (fun h405 => absurd rfl h405) (fun h405 => ?_)
                    refine J_aload_n C iX9_isSame_408 rfl rfl ?_
                    refine J_iload C iX9_isSame_409 rfl ?_
                    refine J_iload C iX9_isSame_411 rfl ?_
                    obtain ⟨fs26, hf26⟩ := CI.head hC25
                    refine J_room (rc2 := 2 + (11 + 1 * (18 * (24 - (q + 1)) + (10 + 1 * (50 + 500 * (9 - (k + 1))))))) (rs2 := 12 + (66 + 1 * (108 * (24 - (q + 1)) + (60 + 1 * (300 + 3000 * (9 - (k + 1))))))) (by omega) (by omega) ?_
                    refine J_cVb (As := [.int (nI a), .int (nI q)]) (st := []) (rc2 := 11 + 1 * (18 * (24 - (q + 1)) + (10 + 1 * (50 + 500 * (9 - (k + 1)))))) (rs2 := 66 + 1 * (108 * (24 - (q + 1)) + (60 + 1 * (300 + 3000 * (9 - (k + 1)))))) (w0 := (w25)) (q0 := 0) C iX9_isSame_413 lm_X9_126 yc_X8_heightAt yv_X8_heightAt (k_heightAt hl (a := a) (k := q) hC25 eq0 ok0 (by omega) (by omega)) rfl rfl hf26 ((((arrI Z n1 24 (fun i => if i < q + 1 then nI (ctD ((fun k a => dkN p h f t (toN Z) a k) i) (toN Z) (k + 1)) else nI (ctD ((fun k a => dkN p h f t (toN Z) a k) i) (toN Z) k)) ++ wSim Z s (toN Z) (toM Z) hA lA oA tA eA (fun j => some (rw j)) (fun j => some (lr j)) fo ft fe dy ca) ++ wRw Z (toN Z) rw p h f t) ++ wPl Z L) ++ wLr Z (toM Z) lr (toK Z) (toV Z)) [] (by simp only [List.append_assoc, List.append_nil, List.nil_append]) rfl ⟨Nat.le_of_ble_eq_true rfl, Nat.le_of_ble_eq_true rfl⟩ (Nat.le_of_ble_eq_true rfl) rfl rfl ?_
                    rintro _ w26 ⟨rfl, hC26⟩
                    refine J_st (.int (nI (tlN h f t a q)) :: []) rfl ?_
                    refine J_ws (((((arrI Z n1 24 (fun i => if i < q + 1 then nI (ctD ((fun k a => dkN p h f t (toN Z) a k) i) (toN Z) (k + 1)) else nI (ctD ((fun k a => dkN p h f t (toN Z) a k) i) (toN Z) k)) ++ wSim Z s (toN Z) (toM Z) hA lA oA tA eA (fun j => some (rw j)) (fun j => some (lr j)) fo ft fe dy ca) ++ wRw Z (toN Z) rw p h f t) ++ wPl Z L) ++ wLr Z (toM Z) lr (toK Z) (toV Z)) ++ w26) (by simp only [List.append_assoc, List.append_nil, List.nil_append]) ?_
                    refine J_aload_n C iX9_isSame_416 rfl rfl ?_
                    refine J_iload C iX9_isSame_417 rfl ?_
                    refine J_iload C iX9_isSame_419 rfl ?_
                    refine J_cVb (As := [.int (nI a), .int (nI q)]) (st := .int (nI (tlN h f t a q)) :: []) (rc2 := 11 + 1 * (18 * (24 - (q + 1)) + (10 + 1 * (50 + 500 * (9 - (k + 1)))))) (rs2 := 66 + 1 * (108 * (24 - (q + 1)) + (60 + 1 * (300 + 3000 * (9 - (k + 1)))))) (w0 := (wSim Z s (toN Z) (toM Z) hA lA oA tA eA (fun j => some (rw j)) (fun j => some (lr j)) fo ft fe dy ca ++ wRw Z (toN Z) rw p h f t)) (q0 := 0) C iX9_isSame_421 lm_X9_42 yc_X9_tall yv_X9_tall (c_X9_tall (i := a) (k := q) ok0 (by omega) (by omega)) rfl rfl rfl (arrI Z n1 24 (fun i => if i < q + 1 then nI (ctD ((fun k a => dkN p h f t (toN Z) a k) i) (toN Z) (k + 1)) else nI (ctD ((fun k a => dkN p h f t (toN Z) a k) i) (toN Z) k))) ((wPl Z L ++ wLr Z (toM Z) lr (toK Z) (toV Z)) ++ w26) (by simp only [List.append_assoc, List.append_nil, List.nil_append]) rfl ⟨Nat.le_of_ble_eq_true rfl, Nat.le_of_ble_eq_true rfl⟩ (Nat.le_of_ble_eq_true rfl) (Nat.zero_add _).symm (Nat.zero_add _).symm ?_
                    rintro _ _ ⟨rfl, rfl⟩
                    refine J_st (.int (nI (tlN h f t a q)) :: .int (nI (tlN h f t a q)) :: []) rfl ?_
                    refine J_ws (((((arrI Z n1 24 (fun i => if i < q + 1 then nI (ctD ((fun k a => dkN p h f t (toN Z) a k) i) (toN Z) (k + 1)) else nI (ctD ((fun k a => dkN p h f t (toN Z) a k) i) (toN Z) k)) ++ wSim Z s (toN Z) (toM Z) hA lA oA tA eA (fun j => some (rw j)) (fun j => some (lr j)) fo ft fe dy ca) ++ wRw Z (toN Z) rw p h f t) ++ wPl Z L) ++ wLr Z (toM Z) lr (toK Z) (toV Z)) ++ w26) (by simp only [List.append_assoc, List.append_nil, List.nil_append]) ?_
                    refine J_icmpne 446 C iX9_isSame_424 rfl (fun h424 => absurd rfl h424) (fun h424 => ?_)
                    refine J_aload_n C iX9_isSame_427 rfl rfl ?_
                    refine J_iload C iX9_isSame_428 rfl ?_
                    refine J_iload C iX9_isSame_430 rfl ?_
                    obtain ⟨fs27, hf27⟩ := CI.head hC26
                    refine J_room (rc2 := 2 + (9 + 1 * (18 * (24 - (q + 1)) + (10 + 1 * (50 + 500 * (9 - (k + 1))))))) (rs2 := 12 + (54 + 1 * (108 * (24 - (q + 1)) + (60 + 1 * (300 + 3000 * (9 - (k + 1))))))) (by omega) (by omega) ?_
                    refine J_cVb (As := [.int (nI a), .int (nI q)]) (st := []) (rc2 := 9 + 1 * (18 * (24 - (q + 1)) + (10 + 1 * (50 + 500 * (9 - (k + 1)))))) (rs2 := 54 + 1 * (108 * (24 - (q + 1)) + (60 + 1 * (300 + 3000 * (9 - (k + 1)))))) (w0 := (w26)) (q0 := 0) C iX9_isSame_432 lm_X9_129 yc_X8_shadowOf yv_X8_shadowOf (k_shadowOf hl (a := a) (k := q) hC26 eq0 ok0 (by omega) (by omega)) rfl rfl hf27 ((((arrI Z n1 24 (fun i => if i < q + 1 then nI (ctD ((fun k a => dkN p h f t (toN Z) a k) i) (toN Z) (k + 1)) else nI (ctD ((fun k a => dkN p h f t (toN Z) a k) i) (toN Z) k)) ++ wSim Z s (toN Z) (toM Z) hA lA oA tA eA (fun j => some (rw j)) (fun j => some (lr j)) fo ft fe dy ca) ++ wRw Z (toN Z) rw p h f t) ++ wPl Z L) ++ wLr Z (toM Z) lr (toK Z) (toV Z)) [] (by simp only [List.append_assoc, List.append_nil, List.nil_append]) rfl ⟨Nat.le_of_ble_eq_true rfl, Nat.le_of_ble_eq_true rfl⟩ (Nat.le_of_ble_eq_true rfl) rfl rfl ?_
                    rintro _ w27 ⟨rfl, hC27⟩
                    refine J_st (.int (nI (rcN h f t a q)) :: []) rfl ?_
                    refine J_ws (((((arrI Z n1 24 (fun i => if i < q + 1 then nI (ctD ((fun k a => dkN p h f t (toN Z) a k) i) (toN Z) (k + 1)) else nI (ctD ((fun k a => dkN p h f t (toN Z) a k) i) (toN Z) k)) ++ wSim Z s (toN Z) (toM Z) hA lA oA tA eA (fun j => some (rw j)) (fun j => some (lr j)) fo ft fe dy ca) ++ wRw Z (toN Z) rw p h f t) ++ wPl Z L) ++ wLr Z (toM Z) lr (toK Z) (toV Z)) ++ w27) (by simp only [List.append_assoc, List.append_nil, List.nil_append]) ?_
                    refine J_aload_n C iX9_isSame_435 rfl rfl ?_
                    refine J_iload C iX9_isSame_436 rfl ?_
                    refine J_iload C iX9_isSame_438 rfl ?_
                    refine J_cVb (As := [.int (nI a), .int (nI q)]) (st := .int (nI (rcN h f t a q)) :: []) (rc2 := 9 + 1 * (18 * (24 - (q + 1)) + (10 + 1 * (50 + 500 * (9 - (k + 1)))))) (rs2 := 54 + 1 * (108 * (24 - (q + 1)) + (60 + 1 * (300 + 3000 * (9 - (k + 1)))))) (w0 := (wSim Z s (toN Z) (toM Z) hA lA oA tA eA (fun j => some (rw j)) (fun j => some (lr j)) fo ft fe dy ca ++ wRw Z (toN Z) rw p h f t)) (q0 := 0) C iX9_isSame_440 lm_X9_46 yc_X9_reach yv_X9_reach (c_X9_reach (i := a) (k := q) ok0 (by omega) (by omega)) rfl rfl rfl (arrI Z n1 24 (fun i => if i < q + 1 then nI (ctD ((fun k a => dkN p h f t (toN Z) a k) i) (toN Z) (k + 1)) else nI (ctD ((fun k a => dkN p h f t (toN Z) a k) i) (toN Z) k))) ((wPl Z L ++ wLr Z (toM Z) lr (toK Z) (toV Z)) ++ w27) (by simp only [List.append_assoc, List.append_nil, List.nil_append]) rfl ⟨Nat.le_of_ble_eq_true rfl, Nat.le_of_ble_eq_true rfl⟩ (Nat.le_of_ble_eq_true rfl) (Nat.zero_add _).symm (Nat.zero_add _).symm ?_
                    rintro _ _ ⟨rfl, rfl⟩
                    refine J_st (.int (nI (rcN h f t a q)) :: .int (nI (rcN h f t a q)) :: []) rfl ?_
                    refine J_ws (((((arrI Z n1 24 (fun i => if i < q + 1 then nI (ctD ((fun k a => dkN p h f t (toN Z) a k) i) (toN Z) (k + 1)) else nI (ctD ((fun k a => dkN p h f t (toN Z) a k) i) (toN Z) k)) ++ wSim Z s (toN Z) (toM Z) hA lA oA tA eA (fun j => some (rw j)) (fun j => some (lr j)) fo ft fe dy ca) ++ wRw Z (toN Z) rw p h f t) ++ wPl Z L) ++ wLr Z (toM Z) lr (toK Z) (toV Z)) ++ w27) (by simp only [List.append_assoc, List.append_nil, List.nil_append]) ?_
                    refine J_icmpeq 448 C iX9_isSame_443 rfl (fun h443 => ?_) (fun h443 => absurd rfl h443)
                    refine J_room (rc2 := 9 + 1 * (18 * (24 - (q + 1)) + (10 + 1 * (50 + 500 * (9 - (k + 1)))))) (rs2 := 54 + 1 * (108 * (24 - (q + 1)) + (60 + 1 * (300 + 3000 * (9 - (k + 1)))))) (by omega) (by omega) ?_
                    refine J_lvm [(9, .int (nI q)), (3, .int (nI (ctD (fun a => decide (loN p h f t (toN Z) a = 0)) (toN Z) (k + 1)))), (8, .ref (rw a)), (7, .int (nI a)), (6, .ref n1), (5, .int (opI (wrD (fun a => caN p h f t (toN Z) a) (toN Z) (k + 1)))), (4, .int (opI (wrD (fun a => loN p h f t (toN Z) a) (toN Z) (k + 1)))), (2, .int (nI (toN Z))), (1, .ref (x 0)), (0, .ref s)] rfl ?_
                    exact hk448 w27 hC27
            · rintro b wv2 hb0 hb hB ihb
              refine J_room (rc2 := 2 + 1 * (2 * (9 - (b + 1)) + (450 + 1 * (50 + 500 * (9 - (k + 1)))))) (rs2 := 12 + 1 * (12 * (9 - (b + 1)) + (2700 + 1 * (300 + 3000 * (9 - (k + 1)))))) (by omega) (by omega) ?_
              refine J_iload C iX9_isSame_298 rfl ?_
              refine J_iload_n C iX9_isSame_300 rfl rfl ?_
              refine J_icmpge 331 C iX9_isSame_301 rfl (fun h301 => absurd h301 (nI_ge (a := b) (b := toN Z) (by omega) (by omega))) (fun h301 => ?_)
              refine J_aload_n C iX9_isSame_304 rfl rfl ?_
              refine J_iload C iX9_isSame_305 rfl ?_
              refine J_iload C iX9_isSame_307 rfl ?_
              obtain ⟨fs28, hf28⟩ := CI.head hB
              refine J_room (rc2 := 2 + (0 + 1 * (2 * (9 - (b + 1)) + (450 + 1 * (50 + 500 * (9 - (k + 1))))))) (rs2 := 12 + (0 + 1 * (12 * (9 - (b + 1)) + (2700 + 1 * (300 + 3000 * (9 - (k + 1))))))) (by omega) (by omega) ?_
              refine J_cVb (As := [.int (nI a), .int (nI b)]) (st := []) (rc2 := 0 + 1 * (2 * (9 - (b + 1)) + (450 + 1 * (50 + 500 * (9 - (k + 1)))))) (rs2 := 0 + 1 * (12 * (9 - (b + 1)) + (2700 + 1 * (300 + 3000 * (9 - (k + 1)))))) (w0 := (wv2)) (q0 := 0) C iX9_isSame_309 lm_X9_118 yc_X8_hoursLostTo yv_X8_hoursLostTo (k_hoursLostTo hl (a := a) (b := b) hB eq0 ok0 (by omega) (by omega)) rfl rfl hf28 ((((arrI Z n1 24 (fun i => nI (ctD ((fun k a => dkN p h f t (toN Z) a k) i) (toN Z) k)) ++ wSim Z s (toN Z) (toM Z) hA lA oA tA eA (fun j => some (rw j)) (fun j => some (lr j)) fo ft fe dy ca) ++ wRw Z (toN Z) rw p h f t) ++ wPl Z L) ++ wLr Z (toM Z) lr (toK Z) (toV Z)) [] (by simp only [List.append_assoc, List.append_nil, List.nil_append]) rfl ⟨Nat.le_of_ble_eq_true rfl, Nat.le_of_ble_eq_true rfl⟩ (Nat.le_of_ble_eq_true rfl) rfl rfl ?_
              rintro _ w28 ⟨rfl, hC28⟩
              refine J_st (.int (nI (ltN p h f t a b)) :: []) rfl ?_
              refine J_ws (((((arrI Z n1 24 (fun i => nI (ctD ((fun k a => dkN p h f t (toN Z) a k) i) (toN Z) k)) ++ wSim Z s (toN Z) (toM Z) hA lA oA tA eA (fun j => some (rw j)) (fun j => some (lr j)) fo ft fe dy ca) ++ wRw Z (toN Z) rw p h f t) ++ wPl Z L) ++ wLr Z (toM Z) lr (toK Z) (toV Z)) ++ w28) (by simp only [List.append_assoc, List.append_nil, List.nil_append]) ?_
              refine J_aload_n C iX9_isSame_312 rfl rfl ?_
              refine J_iload C iX9_isSame_313 rfl ?_
              refine J_iload C iX9_isSame_315 rfl ?_
              refine J_cVb (As := [.int (nI a), .int (nI b)]) (st := .int (nI (ltN p h f t a b)) :: []) (rc2 := 0 + 1 * (2 * (9 - (b + 1)) + (450 + 1 * (50 + 500 * (9 - (k + 1)))))) (rs2 := 0 + 1 * (12 * (9 - (b + 1)) + (2700 + 1 * (300 + 3000 * (9 - (k + 1)))))) (w0 := (wSim Z s (toN Z) (toM Z) hA lA oA tA eA (fun j => some (rw j)) (fun j => some (lr j)) fo ft fe dy ca ++ wRw Z (toN Z) rw p h f t)) (q0 := 0) C iX9_isSame_317 lm_X9_56 yc_X9_lostTo yv_X9_lostTo (c_X9_lostTo (a := a) (b := b) ok0 (by omega) (by omega)) rfl rfl rfl (arrI Z n1 24 (fun i => nI (ctD ((fun k a => dkN p h f t (toN Z) a k) i) (toN Z) k))) ((wPl Z L ++ wLr Z (toM Z) lr (toK Z) (toV Z)) ++ w28) (by simp only [List.append_assoc, List.append_nil, List.nil_append]) rfl ⟨Nat.le_of_ble_eq_true rfl, Nat.le_of_ble_eq_true rfl⟩ (Nat.le_of_ble_eq_true rfl) (Nat.zero_add _).symm (Nat.zero_add _).symm ?_
              rintro _ _ ⟨rfl, rfl⟩
              refine J_st (.int (nI (ltN p h f t a b)) :: .int (nI (ltN p h f t a b)) :: []) rfl ?_
              refine J_ws (((((arrI Z n1 24 (fun i => nI (ctD ((fun k a => dkN p h f t (toN Z) a k) i) (toN Z) k)) ++ wSim Z s (toN Z) (toM Z) hA lA oA tA eA (fun j => some (rw j)) (fun j => some (lr j)) fo ft fe dy ca) ++ wRw Z (toN Z) rw p h f t) ++ wPl Z L) ++ wLr Z (toM Z) lr (toK Z) (toV Z)) ++ w28) (by simp only [List.append_assoc, List.append_nil, List.nil_append]) ?_
              refine J_icmpeq 325 C iX9_isSame_320 rfl (fun h320 => ?_) (fun h320 => absurd rfl h320)
              refine J_iinc ((nI b) + 1) [(9, .int ((nI b) + 1)), (3, .int (nI (ctD (fun a => decide (loN p h f t (toN Z) a = 0)) (toN Z) (k + 1)))), (8, .ref (rw a)), (7, .int (nI a)), (6, .ref n1), (5, .int (opI (wrD (fun a => caN p h f t (toN Z) a) (toN Z) (k + 1)))), (4, .int (opI (wrD (fun a => loN p h f t (toN Z) a) (toN Z) (k + 1)))), (2, .int (nI (toN Z))), (1, .ref (x 0)), (0, .ref s)] C iX9_isSame_325 rfl rfl (by decide) rfl ?_
              rw [show (nI b) + 1 = nI (b + 1) from nI_add _ _]
              refine J_goto 298 C iX9_isSame_328 rfl ?_
              refine J_lvm [(9, .int (nI (b + 1))), (3, .int (nI (ctD (fun a => decide (loN p h f t (toN Z) a = 0)) (toN Z) (k + 1)))), (8, .ref (rw a)), (7, .int (nI a)), (6, .ref n1), (5, .int (opI (wrD (fun a => caN p h f t (toN Z) a) (toN Z) (k + 1)))), (4, .int (opI (wrD (fun a => loN p h f t (toN Z) a) (toN Z) (k + 1)))), (2, .int (nI (toN Z))), (1, .ref (x 0)), (0, .ref s)] rfl ?_
              refine J_room (rc2 := 2 * (9 - (b + 1)) + (450 + 1 * (50 + 500 * (9 - (k + 1))))) (rs2 := 12 * (9 - (b + 1)) + (2700 + 1 * (300 + 3000 * (9 - (k + 1))))) (by omega) (by omega) ?_
              exact ihb (w28) hC28
          · refine J_aload_n C iX9_isSame_209 rfl rfl ?_
            refine J_iload C iX9_isSame_210 rfl ?_
            obtain ⟨fs29, hf29⟩ := CI.head hC15
            refine J_room (rc2 := 1 + (497 + 1 * (50 + 500 * (9 - (k + 1))))) (rs2 := 6 + (2982 + 1 * (300 + 3000 * (9 - (k + 1))))) (by omega) (by omega) ?_
            refine J_cVb (As := [.int (nI a)]) (st := []) (rc2 := 497 + 1 * (50 + 500 * (9 - (k + 1)))) (rs2 := 2982 + 1 * (300 + 3000 * (9 - (k + 1)))) (w0 := (w15)) (q0 := 0) C iX9_isSame_212 lm_X9_102 yc_X8_hasCurfew yv_X8_hasCurfew (k_hasCurfew hl (a := a) hC15 eq0 ok0 (by omega)) rfl rfl hf29 ((((arrI Z n1 24 (fun i => nI (ctD ((fun k a => dkN p h f t (toN Z) a k) i) (toN Z) k)) ++ wSim Z s (toN Z) (toM Z) hA lA oA tA eA (fun j => some (rw j)) (fun j => some (lr j)) fo ft fe dy ca) ++ wRw Z (toN Z) rw p h f t) ++ wPl Z L) ++ wLr Z (toM Z) lr (toK Z) (toV Z)) [] (by simp only [List.append_assoc, List.append_nil, List.nil_append]) rfl ⟨Nat.le_of_ble_eq_true rfl, Nat.le_of_ble_eq_true rfl⟩ (Nat.le_of_ble_eq_true rfl) rfl rfl ?_
            rintro _ w29 ⟨rfl, hC29⟩
            refine J_st (.int (b2i (!decide (f a = 0))) :: []) rfl ?_
            refine J_ws (((((arrI Z n1 24 (fun i => nI (ctD ((fun k a => dkN p h f t (toN Z) a k) i) (toN Z) k)) ++ wSim Z s (toN Z) (toM Z) hA lA oA tA eA (fun j => some (rw j)) (fun j => some (lr j)) fo ft fe dy ca) ++ wRw Z (toN Z) rw p h f t) ++ wPl Z L) ++ wLr Z (toM Z) lr (toK Z) (toV Z)) ++ w29) (by simp only [List.append_assoc, List.append_nil, List.nil_append]) ?_
            refine J_aload C iX9_isSame_215 rfl ?_
            refine J_iconst 2 C iX9_isSame_217 rfl ?_
            refine J_iald (n := 4) (f := rowF p h f t a) (((arrI Z n1 24 (fun i => nI (ctD ((fun k a => dkN p h f t (toN Z) a k) i) (toN Z) k)) ++ wSim Z s (toN Z) (toM Z) hA lA oA tA eA (fun j => some (rw j)) (fun j => some (lr j)) fo ft fe dy ca)).length + a) C iX9_isSame_218 (mid_at (A := (arrI Z n1 24 (fun i => nI (ctD ((fun k a => dkN p h f t (toN Z) a k) i) (toN Z) k)) ++ wSim Z s (toN Z) (toM Z) hA lA oA tA eA (fun j => some (rw j)) (fun j => some (lr j)) fo ft fe dy ca)) (M := wRw Z (toN Z) rw p h f t) (B := ((wPl Z L ++ wLr Z (toM Z) lr (toK Z) (toV Z)) ++ w29)) (by simp only [List.append_assoc, List.append_nil, List.nil_append]) (wRw_at (by omega))) (vp_in_nI (n := 2) (by decide) (by decide)) ?_
            refine J_st (.int (cuI (f a)) :: .int (b2i (!decide (f a = 0))) :: []) rfl ?_
            by_cases hfa : f a = 0
            · refine J_iflt 226 C iX9_isSame_219 rfl (fun h219 => ?_) (fun h219 => absurd ((cu_neg (by omega)).mpr hfa) h219)
              refine J_iconst 0 C iX9_isSame_226 rfl ?_
              refine J_icmpne 293 C iX9_isSame_227 rfl (fun h227 => absurd (show b2i (!decide (f a = 0)) = 0 by rw [decide_eq_true hfa]; rfl) h227) (fun h227 => ?_)
              refine J_aload C iX9_isSame_230 rfl ?_
              refine J_iconst 2 C iX9_isSame_232 rfl ?_
              refine J_iald (n := 4) (f := rowF p h f t a) (((arrI Z n1 24 (fun i => nI (ctD ((fun k a => dkN p h f t (toN Z) a k) i) (toN Z) k)) ++ wSim Z s (toN Z) (toM Z) hA lA oA tA eA (fun j => some (rw j)) (fun j => some (lr j)) fo ft fe dy ca)).length + a) C iX9_isSame_233 (mid_at (A := (arrI Z n1 24 (fun i => nI (ctD ((fun k a => dkN p h f t (toN Z) a k) i) (toN Z) k)) ++ wSim Z s (toN Z) (toM Z) hA lA oA tA eA (fun j => some (rw j)) (fun j => some (lr j)) fo ft fe dy ca)) (M := wRw Z (toN Z) rw p h f t) (B := ((wPl Z L ++ wLr Z (toM Z) lr (toK Z) (toV Z)) ++ w29)) (by simp only [List.append_assoc, List.append_nil, List.nil_append]) (wRw_at (by omega))) (vp_in_nI (n := 2) (by decide) (by decide)) ?_
              refine J_st (.int (cuI (f a)) :: []) rfl ?_
              refine J_iflt 263 C iX9_isSame_234 rfl (fun h234 => ?_) (fun h234 => absurd ((cu_neg (by omega)).mpr hfa) h234)
              refine J_room (rc2 := 493 + 1 * (50 + 500 * (9 - (k + 1)))) (rs2 := 2958 + 1 * (300 + 3000 * (9 - (k + 1)))) (by omega) (by omega) ?_
              refine J_lvm [(3, .int (nI (ctD (fun a => decide (loN p h f t (toN Z) a = 0)) (toN Z) (k + 1)))), (8, .ref (rw a)), (7, .int (nI a)), (6, .ref n1), (5, .int (opI (wrD (fun a => caN p h f t (toN Z) a) (toN Z) (k + 1)))), (4, .int (opI (wrD (fun a => loN p h f t (toN Z) a) (toN Z) (k + 1)))), (2, .int (nI (toN Z))), (1, .ref (x 0)), (0, .ref s)] rfl ?_
              exact hk263 w29 hC29
            · refine J_iflt 226 C iX9_isSame_219 rfl (fun h219 => absurd h219 (fun z => hfa ((cu_neg (by omega)).mp z))) (fun h219 => ?_)
              refine J_iconst 1 C iX9_isSame_222 rfl ?_
              refine J_goto 227 C iX9_isSame_223 rfl ?_
              refine J_icmpne 293 C iX9_isSame_227 rfl (fun h227 => absurd (show b2i (!decide (f a = 0)) = 1 by rw [decide_eq_false hfa]; rfl) h227) (fun h227 => ?_)
              refine J_aload C iX9_isSame_230 rfl ?_
              refine J_iconst 2 C iX9_isSame_232 rfl ?_
              refine J_iald (n := 4) (f := rowF p h f t a) (((arrI Z n1 24 (fun i => nI (ctD ((fun k a => dkN p h f t (toN Z) a k) i) (toN Z) k)) ++ wSim Z s (toN Z) (toM Z) hA lA oA tA eA (fun j => some (rw j)) (fun j => some (lr j)) fo ft fe dy ca)).length + a) C iX9_isSame_233 (mid_at (A := (arrI Z n1 24 (fun i => nI (ctD ((fun k a => dkN p h f t (toN Z) a k) i) (toN Z) k)) ++ wSim Z s (toN Z) (toM Z) hA lA oA tA eA (fun j => some (rw j)) (fun j => some (lr j)) fo ft fe dy ca)) (M := wRw Z (toN Z) rw p h f t) (B := ((wPl Z L ++ wLr Z (toM Z) lr (toK Z) (toV Z)) ++ w29)) (by simp only [List.append_assoc, List.append_nil, List.nil_append]) (wRw_at (by omega))) (vp_in_nI (n := 2) (by decide) (by decide)) ?_
              refine J_st (.int (cuI (f a)) :: []) rfl ?_
              refine J_iflt 263 C iX9_isSame_234 rfl (fun h234 => absurd h234 (fun z => hfa ((cu_neg (by omega)).mp z))) (fun h234 => ?_)
              refine J_aload_n C iX9_isSame_237 rfl rfl ?_
              refine J_iload C iX9_isSame_238 rfl ?_
              obtain ⟨fs30, hf30⟩ := CI.head hC29
              refine J_room (rc2 := 2 + (495 + 1 * (50 + 500 * (9 - (k + 1))))) (rs2 := 12 + (2970 + 1 * (300 + 3000 * (9 - (k + 1))))) (by omega) (by omega) ?_
              refine J_cVb (As := [.int (nI a)]) (st := []) (rc2 := 495 + 1 * (50 + 500 * (9 - (k + 1)))) (rs2 := 2970 + 1 * (300 + 3000 * (9 - (k + 1)))) (w0 := (w29)) (q0 := 0) C iX9_isSame_240 lm_X9_106 yc_X8_curfewFrom yv_X8_curfewFrom (k_curfewFrom hl (a := a) hC29 eq0 ok0 (by omega) hfa) rfl rfl hf30 ((((arrI Z n1 24 (fun i => nI (ctD ((fun k a => dkN p h f t (toN Z) a k) i) (toN Z) k)) ++ wSim Z s (toN Z) (toM Z) hA lA oA tA eA (fun j => some (rw j)) (fun j => some (lr j)) fo ft fe dy ca) ++ wRw Z (toN Z) rw p h f t) ++ wPl Z L) ++ wLr Z (toM Z) lr (toK Z) (toV Z)) [] (by simp only [List.append_assoc, List.append_nil, List.nil_append]) rfl ⟨Nat.le_of_ble_eq_true rfl, Nat.le_of_ble_eq_true rfl⟩ (Nat.le_of_ble_eq_true rfl) rfl rfl ?_
              rintro _ w30 ⟨rfl, hC30⟩
              refine J_st (.int (cuI (f a)) :: []) rfl ?_
              refine J_ws (((((arrI Z n1 24 (fun i => nI (ctD ((fun k a => dkN p h f t (toN Z) a k) i) (toN Z) k)) ++ wSim Z s (toN Z) (toM Z) hA lA oA tA eA (fun j => some (rw j)) (fun j => some (lr j)) fo ft fe dy ca) ++ wRw Z (toN Z) rw p h f t) ++ wPl Z L) ++ wLr Z (toM Z) lr (toK Z) (toV Z)) ++ w30) (by simp only [List.append_assoc, List.append_nil, List.nil_append]) ?_
              refine J_aload C iX9_isSame_243 rfl ?_
              refine J_iconst 2 C iX9_isSame_245 rfl ?_
              refine J_iald (n := 4) (f := rowF p h f t a) (((arrI Z n1 24 (fun i => nI (ctD ((fun k a => dkN p h f t (toN Z) a k) i) (toN Z) k)) ++ wSim Z s (toN Z) (toM Z) hA lA oA tA eA (fun j => some (rw j)) (fun j => some (lr j)) fo ft fe dy ca)).length + a) C iX9_isSame_246 (mid_at (A := (arrI Z n1 24 (fun i => nI (ctD ((fun k a => dkN p h f t (toN Z) a k) i) (toN Z) k)) ++ wSim Z s (toN Z) (toM Z) hA lA oA tA eA (fun j => some (rw j)) (fun j => some (lr j)) fo ft fe dy ca)) (M := wRw Z (toN Z) rw p h f t) (B := ((wPl Z L ++ wLr Z (toM Z) lr (toK Z) (toV Z)) ++ w30)) (by simp only [List.append_assoc, List.append_nil, List.nil_append]) (wRw_at (by omega))) (vp_in_nI (n := 2) (by decide) (by decide)) ?_
              refine J_st (.int (cuI (f a)) :: .int (cuI (f a)) :: []) rfl ?_
              refine J_icmpne 293 C iX9_isSame_247 rfl (fun h247 => absurd rfl h247) (fun h247 => ?_)
              refine J_aload_n C iX9_isSame_250 rfl rfl ?_
              refine J_iload C iX9_isSame_251 rfl ?_
              obtain ⟨fs31, hf31⟩ := CI.head hC30
              refine J_room (rc2 := 2 + (493 + 1 * (50 + 500 * (9 - (k + 1))))) (rs2 := 12 + (2958 + 1 * (300 + 3000 * (9 - (k + 1))))) (by omega) (by omega) ?_
              refine J_cVb (As := [.int (nI a)]) (st := []) (rc2 := 493 + 1 * (50 + 500 * (9 - (k + 1)))) (rs2 := 2958 + 1 * (300 + 3000 * (9 - (k + 1)))) (w0 := (w30)) (q0 := 0) C iX9_isSame_253 lm_X9_109 yc_X8_curfewTo yv_X8_curfewTo (k_curfewTo hl (a := a) hC30 eq0 ok0 (by omega) hfa) rfl rfl hf31 ((((arrI Z n1 24 (fun i => nI (ctD ((fun k a => dkN p h f t (toN Z) a k) i) (toN Z) k)) ++ wSim Z s (toN Z) (toM Z) hA lA oA tA eA (fun j => some (rw j)) (fun j => some (lr j)) fo ft fe dy ca) ++ wRw Z (toN Z) rw p h f t) ++ wPl Z L) ++ wLr Z (toM Z) lr (toK Z) (toV Z)) [] (by simp only [List.append_assoc, List.append_nil, List.nil_append]) rfl ⟨Nat.le_of_ble_eq_true rfl, Nat.le_of_ble_eq_true rfl⟩ (Nat.le_of_ble_eq_true rfl) rfl rfl ?_
              rintro _ w31 ⟨rfl, hC31⟩
              refine J_st (.int (cuI (t a)) :: []) rfl ?_
              refine J_ws (((((arrI Z n1 24 (fun i => nI (ctD ((fun k a => dkN p h f t (toN Z) a k) i) (toN Z) k)) ++ wSim Z s (toN Z) (toM Z) hA lA oA tA eA (fun j => some (rw j)) (fun j => some (lr j)) fo ft fe dy ca) ++ wRw Z (toN Z) rw p h f t) ++ wPl Z L) ++ wLr Z (toM Z) lr (toK Z) (toV Z)) ++ w31) (by simp only [List.append_assoc, List.append_nil, List.nil_append]) ?_
              refine J_aload C iX9_isSame_256 rfl ?_
              refine J_iconst 3 C iX9_isSame_258 rfl ?_
              refine J_iald (n := 4) (f := rowF p h f t a) (((arrI Z n1 24 (fun i => nI (ctD ((fun k a => dkN p h f t (toN Z) a k) i) (toN Z) k)) ++ wSim Z s (toN Z) (toM Z) hA lA oA tA eA (fun j => some (rw j)) (fun j => some (lr j)) fo ft fe dy ca)).length + a) C iX9_isSame_259 (mid_at (A := (arrI Z n1 24 (fun i => nI (ctD ((fun k a => dkN p h f t (toN Z) a k) i) (toN Z) k)) ++ wSim Z s (toN Z) (toM Z) hA lA oA tA eA (fun j => some (rw j)) (fun j => some (lr j)) fo ft fe dy ca)) (M := wRw Z (toN Z) rw p h f t) (B := ((wPl Z L ++ wLr Z (toM Z) lr (toK Z) (toV Z)) ++ w31)) (by simp only [List.append_assoc, List.append_nil, List.nil_append]) (wRw_at (by omega))) (vp_in_nI (n := 3) (by decide) (by decide)) ?_
              refine J_st (.int (cuI (t a)) :: .int (cuI (t a)) :: []) rfl ?_
              refine J_icmpne 293 C iX9_isSame_260 rfl (fun h260 => absurd rfl h260) (fun h260 => ?_)
              refine J_room (rc2 := 493 + 1 * (50 + 500 * (9 - (k + 1)))) (rs2 := 2958 + 1 * (300 + 3000 * (9 - (k + 1)))) (by omega) (by omega) ?_
              refine J_lvm [(3, .int (nI (ctD (fun a => decide (loN p h f t (toN Z) a = 0)) (toN Z) (k + 1)))), (8, .ref (rw a)), (7, .int (nI a)), (6, .ref n1), (5, .int (opI (wrD (fun a => caN p h f t (toN Z) a) (toN Z) (k + 1)))), (4, .int (opI (wrD (fun a => loN p h f t (toN Z) a) (toN Z) (k + 1)))), (2, .int (nI (toN Z))), (1, .ref (x 0)), (0, .ref s)] rfl ?_
              exact hk263 w31 hC31
        · refine J_iload C iX9_isSame_159 rfl ?_
          rcases hdao : wrD (fun a => caN p h f t (toN Z) a) (toN Z) k with _ | whda
          · have hda : wrD (fun a => caN p h f t (toN Z) a) (toN Z) k = none := hdao
            refine J_iflt 179 C iX9_isSame_161 rfl (fun h161 => ?_) (fun h161 => absurd (show opI none < 0 by decide) h161)
            refine J_iload C iX9_isSame_179 rfl ?_
            refine J_istore [(5, .int (nI a)), (3, .int (nI (ctD (fun a => decide (loN p h f t (toN Z) a = 0)) (toN Z) (k + 1)))), (8, .ref (rw a)), (7, .int (nI a)), (6, .ref n1), (4, .int (opI (wrD (fun a => loN p h f t (toN Z) a) (toN Z) (k + 1)))), (2, .int (nI (toN Z))), (1, .ref (x 0)), (0, .ref s)] C iX9_isSame_181 (by decide) rfl ?_
            have ehda : opI (wrD (fun a => caN p h f t (toN Z) a) (toN Z) (k + 1)) = nI a := by rw [wrD, hda, ← hae]; rfl
            refine J_room (rc2 := 500 + 1 * (50 + 500 * (9 - (k + 1)))) (rs2 := 3000 + 1 * (300 + 3000 * (9 - (k + 1)))) (by omega) (by omega) ?_
            refine J_lvm [(3, .int (nI (ctD (fun a => decide (loN p h f t (toN Z) a = 0)) (toN Z) (k + 1)))), (8, .ref (rw a)), (7, .int (nI a)), (6, .ref n1), (5, .int (opI (wrD (fun a => caN p h f t (toN Z) a) (toN Z) (k + 1)))), (4, .int (opI (wrD (fun a => loN p h f t (toN Z) a) (toN Z) (k + 1)))), (2, .int (nI (toN Z))), (1, .ref (x 0)), (0, .ref s)] (by rw [ehda]; rfl) ?_
            exact hk183 w12 hC12
          · have hdas : wrD (fun a => caN p h f t (toN Z) a) (toN Z) k = some whda := hdao
            have hdal := wrD_lt (by omega) hdas
            refine J_lvm [(3, .int (nI (ctD (fun a => decide (loN p h f t (toN Z) a = 0)) (toN Z) (k + 1)))), (8, .ref (rw a)), (7, .int (nI a)), (6, .ref n1), (5, .int (nI whda)), (4, .int (opI (wrD (fun a => loN p h f t (toN Z) a) (toN Z) (k + 1)))), (2, .int (nI (toN Z))), (1, .ref (x 0)), (0, .ref s)] rfl ?_
            refine J_st (.int (nI whda) :: []) rfl ?_
            refine J_iflt 179 C iX9_isSame_161 rfl (fun h161 => absurd h161 (nI_pos (n := whda) (by omega))) (fun h161 => ?_)
            refine J_aload_n C iX9_isSame_164 rfl rfl ?_
            refine J_iload C iX9_isSame_165 rfl ?_
            refine J_cVb (As := [.int (nI a)]) (st := []) (rc2 := 500 + 1 * (50 + 500 * (9 - (k + 1)))) (rs2 := 3000 + 1 * (300 + 3000 * (9 - (k + 1)))) (w0 := (wSim Z s (toN Z) (toM Z) hA lA oA tA eA (fun j => some (rw j)) (fun j => some (lr j)) fo ft fe dy ca ++ wRw Z (toN Z) rw p h f t)) (q0 := 0) C iX9_isSame_167 lm_X9_93 yc_X9_cast yv_X9_cast (c_X9_cast (b := a) ok0 (by omega)) rfl rfl rfl (arrI Z n1 24 (fun i => nI (ctD ((fun k a => dkN p h f t (toN Z) a k) i) (toN Z) k))) ((wPl Z L ++ wLr Z (toM Z) lr (toK Z) (toV Z)) ++ w12) (by simp only [List.append_assoc, List.append_nil, List.nil_append]) rfl ⟨Nat.le_of_ble_eq_true rfl, Nat.le_of_ble_eq_true rfl⟩ (Nat.le_of_ble_eq_true rfl) (Nat.zero_add _).symm (Nat.zero_add _).symm ?_
            rintro _ _ ⟨rfl, rfl⟩
            refine J_st (.int (nI (caN p h f t (toN Z) a)) :: []) rfl ?_
            refine J_ws (((((arrI Z n1 24 (fun i => nI (ctD ((fun k a => dkN p h f t (toN Z) a k) i) (toN Z) k)) ++ wSim Z s (toN Z) (toM Z) hA lA oA tA eA (fun j => some (rw j)) (fun j => some (lr j)) fo ft fe dy ca) ++ wRw Z (toN Z) rw p h f t) ++ wPl Z L) ++ wLr Z (toM Z) lr (toK Z) (toV Z)) ++ w12) (by simp only [List.append_assoc, List.append_nil, List.nil_append]) ?_
            refine J_aload_n C iX9_isSame_170 rfl rfl ?_
            refine J_iload C iX9_isSame_171 rfl ?_
            refine J_cVb (As := [.int (nI whda)]) (st := .int (nI (caN p h f t (toN Z) a)) :: []) (rc2 := 500 + 1 * (50 + 500 * (9 - (k + 1)))) (rs2 := 3000 + 1 * (300 + 3000 * (9 - (k + 1)))) (w0 := (wSim Z s (toN Z) (toM Z) hA lA oA tA eA (fun j => some (rw j)) (fun j => some (lr j)) fo ft fe dy ca ++ wRw Z (toN Z) rw p h f t)) (q0 := 0) C iX9_isSame_173 lm_X9_93 yc_X9_cast yv_X9_cast (c_X9_cast (b := whda) ok0 (by omega)) rfl rfl rfl (arrI Z n1 24 (fun i => nI (ctD ((fun k a => dkN p h f t (toN Z) a k) i) (toN Z) k))) ((wPl Z L ++ wLr Z (toM Z) lr (toK Z) (toV Z)) ++ w12) (by simp only [List.append_assoc, List.append_nil, List.nil_append]) rfl ⟨Nat.le_of_ble_eq_true rfl, Nat.le_of_ble_eq_true rfl⟩ (Nat.le_of_ble_eq_true rfl) (Nat.zero_add _).symm (Nat.zero_add _).symm ?_
            rintro _ _ ⟨rfl, rfl⟩
            refine J_st (.int (nI (caN p h f t (toN Z) whda)) :: .int (nI (caN p h f t (toN Z) a)) :: []) rfl ?_
            refine J_ws (((((arrI Z n1 24 (fun i => nI (ctD ((fun k a => dkN p h f t (toN Z) a k) i) (toN Z) k)) ++ wSim Z s (toN Z) (toM Z) hA lA oA tA eA (fun j => some (rw j)) (fun j => some (lr j)) fo ft fe dy ca) ++ wRw Z (toN Z) rw p h f t) ++ wPl Z L) ++ wLr Z (toM Z) lr (toK Z) (toV Z)) ++ w12) (by simp only [List.append_assoc, List.append_nil, List.nil_append]) ?_
            by_cases hdae : caN p h f t (toN Z) whda ≤ caN p h f t (toN Z) a
            · refine J_icmplt 183 C iX9_isSame_176 rfl (fun h176 => absurd h176 (nI_nlt (a := caN p h f t (toN Z) a) (b := caN p h f t (toN Z) whda) hdae (by have := caN_le p h f t (n := toN Z) (by omega) a; omega))) (fun h176 => ?_)
              refine J_iload C iX9_isSame_179 rfl ?_
              refine J_istore [(5, .int (nI a)), (3, .int (nI (ctD (fun a => decide (loN p h f t (toN Z) a = 0)) (toN Z) (k + 1)))), (8, .ref (rw a)), (7, .int (nI a)), (6, .ref n1), (4, .int (opI (wrD (fun a => loN p h f t (toN Z) a) (toN Z) (k + 1)))), (2, .int (nI (toN Z))), (1, .ref (x 0)), (0, .ref s)] C iX9_isSame_181 (by decide) rfl ?_
              have ehda : opI (wrD (fun a => caN p h f t (toN Z) a) (toN Z) (k + 1)) = nI a := by rw [wrD, hdas]; dsimp only; rw [← hae, if_pos hdae]; rfl
              refine J_room (rc2 := 500 + 1 * (50 + 500 * (9 - (k + 1)))) (rs2 := 3000 + 1 * (300 + 3000 * (9 - (k + 1)))) (by omega) (by omega) ?_
              refine J_lvm [(3, .int (nI (ctD (fun a => decide (loN p h f t (toN Z) a = 0)) (toN Z) (k + 1)))), (8, .ref (rw a)), (7, .int (nI a)), (6, .ref n1), (5, .int (opI (wrD (fun a => caN p h f t (toN Z) a) (toN Z) (k + 1)))), (4, .int (opI (wrD (fun a => loN p h f t (toN Z) a) (toN Z) (k + 1)))), (2, .int (nI (toN Z))), (1, .ref (x 0)), (0, .ref s)] (by rw [ehda]; rfl) ?_
              exact hk183 w12 hC12
            · refine J_icmplt 183 C iX9_isSame_176 rfl (fun h176 => ?_) (fun h176 => absurd (nI_lt (a := caN p h f t (toN Z) a) (b := caN p h f t (toN Z) whda) (by omega) (by have := caN_le p h f t (n := toN Z) (by omega) whda; omega)) h176)
              have ehda : opI (wrD (fun a => caN p h f t (toN Z) a) (toN Z) (k + 1)) = nI whda := by rw [wrD, hdas]; dsimp only; rw [← hae, if_neg hdae]; rfl
              refine J_room (rc2 := 500 + 1 * (50 + 500 * (9 - (k + 1)))) (rs2 := 3000 + 1 * (300 + 3000 * (9 - (k + 1)))) (by omega) (by omega) ?_
              refine J_lvm [(3, .int (nI (ctD (fun a => decide (loN p h f t (toN Z) a = 0)) (toN Z) (k + 1)))), (8, .ref (rw a)), (7, .int (nI a)), (6, .ref n1), (5, .int (opI (wrD (fun a => caN p h f t (toN Z) a) (toN Z) (k + 1)))), (4, .int (opI (wrD (fun a => loN p h f t (toN Z) a) (toN Z) (k + 1)))), (2, .int (nI (toN Z))), (1, .ref (x 0)), (0, .ref s)] (by rw [ehda]; rfl) ?_
              exact hk183 w12 hC12
      · refine J_iload C iX9_isSame_135 rfl ?_
        rcases hwoo : wrD (fun a => loN p h f t (toN Z) a) (toN Z) k with _ | whwo
        · have hwo : wrD (fun a => loN p h f t (toN Z) a) (toN Z) k = none := hwoo
          refine J_iflt 155 C iX9_isSame_137 rfl (fun h137 => ?_) (fun h137 => absurd (show opI none < 0 by decide) h137)
          refine J_iload C iX9_isSame_155 rfl ?_
          refine J_istore [(4, .int (nI a)), (3, .int (nI (ctD (fun a => decide (loN p h f t (toN Z) a = 0)) (toN Z) (k + 1)))), (8, .ref (rw a)), (7, .int (nI a)), (6, .ref n1), (5, .int (opI (wrD (fun a => caN p h f t (toN Z) a) (toN Z) k))), (2, .int (nI (toN Z))), (1, .ref (x 0)), (0, .ref s)] C iX9_isSame_157 (by decide) rfl ?_
          have ehwo : opI (wrD (fun a => loN p h f t (toN Z) a) (toN Z) (k + 1)) = nI a := by rw [wrD, hwo, ← hae]; rfl
          refine J_room (rc2 := 500 + 1 * (50 + 500 * (9 - (k + 1)))) (rs2 := 3000 + 1 * (300 + 3000 * (9 - (k + 1)))) (by omega) (by omega) ?_
          refine J_lvm [(3, .int (nI (ctD (fun a => decide (loN p h f t (toN Z) a = 0)) (toN Z) (k + 1)))), (8, .ref (rw a)), (7, .int (nI a)), (6, .ref n1), (5, .int (opI (wrD (fun a => caN p h f t (toN Z) a) (toN Z) k))), (4, .int (opI (wrD (fun a => loN p h f t (toN Z) a) (toN Z) (k + 1)))), (2, .int (nI (toN Z))), (1, .ref (x 0)), (0, .ref s)] (by rw [ehwo]; rfl) ?_
          exact hk159 w11 hC11
        · have hwos : wrD (fun a => loN p h f t (toN Z) a) (toN Z) k = some whwo := hwoo
          have hwol := wrD_lt (by omega) hwos
          refine J_lvm [(3, .int (nI (ctD (fun a => decide (loN p h f t (toN Z) a = 0)) (toN Z) (k + 1)))), (8, .ref (rw a)), (7, .int (nI a)), (6, .ref n1), (5, .int (opI (wrD (fun a => caN p h f t (toN Z) a) (toN Z) k))), (4, .int (nI whwo)), (2, .int (nI (toN Z))), (1, .ref (x 0)), (0, .ref s)] rfl ?_
          refine J_st (.int (nI whwo) :: []) rfl ?_
          refine J_iflt 155 C iX9_isSame_137 rfl (fun h137 => absurd h137 (nI_pos (n := whwo) (by omega))) (fun h137 => ?_)
          refine J_aload_n C iX9_isSame_140 rfl rfl ?_
          refine J_iload C iX9_isSame_141 rfl ?_
          refine J_cVb (As := [.int (nI a)]) (st := []) (rc2 := 500 + 1 * (50 + 500 * (9 - (k + 1)))) (rs2 := 3000 + 1 * (300 + 3000 * (9 - (k + 1)))) (w0 := (wSim Z s (toN Z) (toM Z) hA lA oA tA eA (fun j => some (rw j)) (fun j => some (lr j)) fo ft fe dy ca ++ wRw Z (toN Z) rw p h f t)) (q0 := 0) C iX9_isSame_143 lm_X9_59 yc_X9_lost yv_X9_lost (c_X9_lost (a := a) ok0 (by omega)) rfl rfl rfl (arrI Z n1 24 (fun i => nI (ctD ((fun k a => dkN p h f t (toN Z) a k) i) (toN Z) k))) ((wPl Z L ++ wLr Z (toM Z) lr (toK Z) (toV Z)) ++ w11) (by simp only [List.append_assoc, List.append_nil, List.nil_append]) rfl ⟨Nat.le_of_ble_eq_true rfl, Nat.le_of_ble_eq_true rfl⟩ (Nat.le_of_ble_eq_true rfl) (Nat.zero_add _).symm (Nat.zero_add _).symm ?_
          rintro _ _ ⟨rfl, rfl⟩
          refine J_st (.int (nI (loN p h f t (toN Z) a)) :: []) rfl ?_
          refine J_ws (((((arrI Z n1 24 (fun i => nI (ctD ((fun k a => dkN p h f t (toN Z) a k) i) (toN Z) k)) ++ wSim Z s (toN Z) (toM Z) hA lA oA tA eA (fun j => some (rw j)) (fun j => some (lr j)) fo ft fe dy ca) ++ wRw Z (toN Z) rw p h f t) ++ wPl Z L) ++ wLr Z (toM Z) lr (toK Z) (toV Z)) ++ w11) (by simp only [List.append_assoc, List.append_nil, List.nil_append]) ?_
          refine J_aload_n C iX9_isSame_146 rfl rfl ?_
          refine J_iload C iX9_isSame_147 rfl ?_
          refine J_cVb (As := [.int (nI whwo)]) (st := .int (nI (loN p h f t (toN Z) a)) :: []) (rc2 := 500 + 1 * (50 + 500 * (9 - (k + 1)))) (rs2 := 3000 + 1 * (300 + 3000 * (9 - (k + 1)))) (w0 := (wSim Z s (toN Z) (toM Z) hA lA oA tA eA (fun j => some (rw j)) (fun j => some (lr j)) fo ft fe dy ca ++ wRw Z (toN Z) rw p h f t)) (q0 := 0) C iX9_isSame_149 lm_X9_59 yc_X9_lost yv_X9_lost (c_X9_lost (a := whwo) ok0 (by omega)) rfl rfl rfl (arrI Z n1 24 (fun i => nI (ctD ((fun k a => dkN p h f t (toN Z) a k) i) (toN Z) k))) ((wPl Z L ++ wLr Z (toM Z) lr (toK Z) (toV Z)) ++ w11) (by simp only [List.append_assoc, List.append_nil, List.nil_append]) rfl ⟨Nat.le_of_ble_eq_true rfl, Nat.le_of_ble_eq_true rfl⟩ (Nat.le_of_ble_eq_true rfl) (Nat.zero_add _).symm (Nat.zero_add _).symm ?_
          rintro _ _ ⟨rfl, rfl⟩
          refine J_st (.int (nI (loN p h f t (toN Z) whwo)) :: .int (nI (loN p h f t (toN Z) a)) :: []) rfl ?_
          refine J_ws (((((arrI Z n1 24 (fun i => nI (ctD ((fun k a => dkN p h f t (toN Z) a k) i) (toN Z) k)) ++ wSim Z s (toN Z) (toM Z) hA lA oA tA eA (fun j => some (rw j)) (fun j => some (lr j)) fo ft fe dy ca) ++ wRw Z (toN Z) rw p h f t) ++ wPl Z L) ++ wLr Z (toM Z) lr (toK Z) (toV Z)) ++ w11) (by simp only [List.append_assoc, List.append_nil, List.nil_append]) ?_
          by_cases hwoe : loN p h f t (toN Z) whwo ≤ loN p h f t (toN Z) a
          · refine J_icmplt 159 C iX9_isSame_152 rfl (fun h152 => absurd h152 (nI_nlt (a := loN p h f t (toN Z) a) (b := loN p h f t (toN Z) whwo) hwoe (by have := loN_le p h f t (toN Z) a; omega))) (fun h152 => ?_)
            refine J_iload C iX9_isSame_155 rfl ?_
            refine J_istore [(4, .int (nI a)), (3, .int (nI (ctD (fun a => decide (loN p h f t (toN Z) a = 0)) (toN Z) (k + 1)))), (8, .ref (rw a)), (7, .int (nI a)), (6, .ref n1), (5, .int (opI (wrD (fun a => caN p h f t (toN Z) a) (toN Z) k))), (2, .int (nI (toN Z))), (1, .ref (x 0)), (0, .ref s)] C iX9_isSame_157 (by decide) rfl ?_
            have ehwo : opI (wrD (fun a => loN p h f t (toN Z) a) (toN Z) (k + 1)) = nI a := by rw [wrD, hwos]; dsimp only; rw [← hae, if_pos hwoe]; rfl
            refine J_room (rc2 := 500 + 1 * (50 + 500 * (9 - (k + 1)))) (rs2 := 3000 + 1 * (300 + 3000 * (9 - (k + 1)))) (by omega) (by omega) ?_
            refine J_lvm [(3, .int (nI (ctD (fun a => decide (loN p h f t (toN Z) a = 0)) (toN Z) (k + 1)))), (8, .ref (rw a)), (7, .int (nI a)), (6, .ref n1), (5, .int (opI (wrD (fun a => caN p h f t (toN Z) a) (toN Z) k))), (4, .int (opI (wrD (fun a => loN p h f t (toN Z) a) (toN Z) (k + 1)))), (2, .int (nI (toN Z))), (1, .ref (x 0)), (0, .ref s)] (by rw [ehwo]; rfl) ?_
            exact hk159 w11 hC11
          · refine J_icmplt 159 C iX9_isSame_152 rfl (fun h152 => ?_) (fun h152 => absurd (nI_lt (a := loN p h f t (toN Z) a) (b := loN p h f t (toN Z) whwo) (by omega) (by have := loN_le p h f t (toN Z) whwo; omega)) h152)
            have ehwo : opI (wrD (fun a => loN p h f t (toN Z) a) (toN Z) (k + 1)) = nI whwo := by rw [wrD, hwos]; dsimp only; rw [← hae, if_neg hwoe]; rfl
            refine J_room (rc2 := 500 + 1 * (50 + 500 * (9 - (k + 1)))) (rs2 := 3000 + 1 * (300 + 3000 * (9 - (k + 1)))) (by omega) (by omega) ?_
            refine J_lvm [(3, .int (nI (ctD (fun a => decide (loN p h f t (toN Z) a = 0)) (toN Z) (k + 1)))), (8, .ref (rw a)), (7, .int (nI a)), (6, .ref n1), (5, .int (opI (wrD (fun a => caN p h f t (toN Z) a) (toN Z) k))), (4, .int (opI (wrD (fun a => loN p h f t (toN Z) a) (toN Z) (k + 1)))), (2, .int (nI (toN Z))), (1, .ref (x 0)), (0, .ref s)] (by rw [ehwo]; rfl) ?_
            exact hk159 w11 hC11
    · refine J_iload_n C iX9_isSame_118 rfl rfl ?_
      refine J_aload_n C iX9_isSame_119 rfl rfl ?_
      refine J_iload C iX9_isSame_120 rfl ?_
      refine J_cVb (As := [.int (nI a)]) (st := .int (nI (ctD (fun a => decide (loN p h f t (toN Z) a = 0)) (toN Z) k)) :: []) (rc2 := 500 + 1 * (50 + 500 * (9 - (k + 1)))) (rs2 := 3000 + 1 * (300 + 3000 * (9 - (k + 1)))) (w0 := (wSim Z s (toN Z) (toM Z) hA lA oA tA eA (fun j => some (rw j)) (fun j => some (lr j)) fo ft fe dy ca ++ wRw Z (toN Z) rw p h f t)) (q0 := 0) C iX9_isSame_122 lm_X9_59 yc_X9_lost yv_X9_lost (c_X9_lost (a := a) ok0 (by omega)) rfl rfl rfl (arrI Z n1 24 (fun i => nI (ctD ((fun k a => dkN p h f t (toN Z) a k) i) (toN Z) k))) ((wPl Z L ++ wLr Z (toM Z) lr (toK Z) (toV Z)) ++ wv1) (by simp only [List.append_assoc, List.append_nil, List.nil_append]) rfl ⟨Nat.le_of_ble_eq_true rfl, Nat.le_of_ble_eq_true rfl⟩ (Nat.le_of_ble_eq_true rfl) (Nat.zero_add _).symm (Nat.zero_add _).symm ?_
      rintro _ _ ⟨rfl, rfl⟩
      refine J_st (.int (nI (loN p h f t (toN Z) a)) :: .int (nI (ctD (fun a => decide (loN p h f t (toN Z) a = 0)) (toN Z) k)) :: []) rfl ?_
      refine J_ws (((((arrI Z n1 24 (fun i => nI (ctD ((fun k a => dkN p h f t (toN Z) a k) i) (toN Z) k)) ++ wSim Z s (toN Z) (toM Z) hA lA oA tA eA (fun j => some (rw j)) (fun j => some (lr j)) fo ft fe dy ca) ++ wRw Z (toN Z) rw p h f t) ++ wPl Z L) ++ wLr Z (toM Z) lr (toK Z) (toV Z)) ++ wv1) (by simp only [List.append_assoc, List.append_nil, List.nil_append]) ?_
      by_cases hlo : loN p h f t (toN Z) a = 0
      · refine J_ifne 132 C iX9_isSame_125 rfl (fun h125 => absurd (show nI (loN p h f t (toN Z) a) = 0 from congrArg nI hlo) h125) (fun h125 => ?_)
        refine J_iconst 1 C iX9_isSame_128 rfl ?_
        refine J_goto 133 C iX9_isSame_129 rfl ?_
        refine J_iadd C iX9_isSame_133 ?_
        rw [show (nI (ctD (fun a => decide (loN p h f t (toN Z) a = 0)) (toN Z) k)) + 1 = nI ((ctD (fun a => decide (loN p h f t (toN Z) a = 0)) (toN Z) k) + 1) from nI_add _ _]
        refine J_st (.int (nI (ctD (fun a => decide (loN p h f t (toN Z) a = 0)) (toN Z) (k + 1))) :: []) (congrArg (fun z => (.int z :: [] : List Value)) (show (nI ((ctD (fun a => decide (loN p h f t (toN Z) a = 0)) (toN Z) k) + 1) : Int32) = _ by rw [ctD, ← hae]; rw [decide_eq_true hlo]; rfl)) ?_
        refine J_room (rc2 := 500 + 1 * (50 + 500 * (9 - (k + 1)))) (rs2 := 3000 + 1 * (300 + 3000 * (9 - (k + 1)))) (by omega) (by omega) ?_
        refine J_lvm [(8, .ref (rw a)), (7, .int (nI a)), (6, .ref n1), (5, .int (opI (wrD (fun a => caN p h f t (toN Z) a) (toN Z) k))), (4, .int (opI (wrD (fun a => loN p h f t (toN Z) a) (toN Z) k))), (3, .int (nI (ctD (fun a => decide (loN p h f t (toN Z) a = 0)) (toN Z) k))), (2, .int (nI (toN Z))), (1, .ref (x 0)), (0, .ref s)] rfl ?_
        exact hk134 wv1 hI
      · refine J_ifne 132 C iX9_isSame_125 rfl (fun h125 => ?_) (fun h125 => absurd h125 (fun e => hlo ((nI_eq (b := 0) (by have := loN_le p h f t (toN Z) a; omega) (by decide)).mp e)))
        refine J_iconst 0 C iX9_isSame_132 rfl ?_
        refine J_iadd C iX9_isSame_133 ?_
        rw [show (nI (ctD (fun a => decide (loN p h f t (toN Z) a = 0)) (toN Z) k)) + 0 = nI ((ctD (fun a => decide (loN p h f t (toN Z) a = 0)) (toN Z) k) + 0) from nI_add _ _]
        refine J_st (.int (nI (ctD (fun a => decide (loN p h f t (toN Z) a = 0)) (toN Z) (k + 1))) :: []) (congrArg (fun z => (.int z :: [] : List Value)) (show (nI ((ctD (fun a => decide (loN p h f t (toN Z) a = 0)) (toN Z) k) + 0) : Int32) = _ by rw [ctD, ← hae]; rw [decide_eq_false hlo]; rfl)) ?_
        refine J_room (rc2 := 500 + 1 * (50 + 500 * (9 - (k + 1)))) (rs2 := 3000 + 1 * (300 + 3000 * (9 - (k + 1)))) (by omega) (by omega) ?_
        refine J_lvm [(8, .ref (rw a)), (7, .int (nI a)), (6, .ref n1), (5, .int (opI (wrD (fun a => caN p h f t (toN Z) a) (toN Z) k))), (4, .int (opI (wrD (fun a => loN p h f t (toN Z) a) (toN Z) k))), (3, .int (nI (ctD (fun a => decide (loN p h f t (toN Z) a = 0)) (toN Z) k))), (2, .int (nI (toN Z))), (1, .ref (x 0)), (0, .ref s)] rfl ?_
        exact hk134 wv1 hI

