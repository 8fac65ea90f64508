set_option maxRecDepth 100000 in
set_option maxHeartbeats 16000000 in
theorem c_X10_text {Z : GZ} {l : Launch} {n : Nat} {L : List TC} (hn : 0 < n) (hn2 : n ≤ 12) : ∀ (fu : Nat) {a : Nat} {q : TN} (hq : InT n L fu a q) (hl9 : (txN n fu q).length ≤ 2000), Ct Z l yX10_text cX10_text 4 (some (.object "java/lang/String")) (rmT fu) [.ref a] (wPl Z L) (TxR Z L (txN n fu q)) := by
  intro fu
  induction fu with
  | zero => exact fun hq => absurd hq (by simp [InT])
  | succ fu ih =>
    intro a q hq hl9
    have hkin := kN_in q
    have hnb := nm_big hn hn2 q
    have hob : otN n q < 1000000 := by have := ot_lt hn q; omega
    obtain ⟨oa, ob, hm, hbA, hbB⟩ := hq
    obtain ⟨i, hi9⟩ := List.mem_iff_getElem?.mp hm
    clear hm
    have hks : kN q = 0 ∨ kN q = 1 ∨ kN q = 2 ∨ kN q = 3 ∨ kN q = 4 ∨ kN q = 5 ∨ kN q = 6 ∨ kN q = 7 ∨ kN q = 8 ∨ kN q = 9 ∨ kN q = 10 ∨ kN q = 11 ∨ kN q = 12 ∨ kN q = 20 ∨ kN q = 21 ∨ kN q = 22 ∨ kN q = 23 ∨ kN q = 24 ∨ kN q = 25 ∨ kN q = 26 ∨ kN q = 29 ∨ kN q = 30 ∨ kN q = 31 := by omega
    refine Ct.ofJ (own := RX10) (nm := "text") (lv0 := [(0, .ref a)]) (by decide) rfl rfl (Nat.le_of_ble_eq_true rfl) rfl (fun X hXl C E => ?_)
    subst hXl
    refine J_room (rc2 := 20 + 2 * tcN fu) (rs2 := 31000 + 2 * tsN fu) (Nat.le_refl _) (Nat.le_refl _) ?_
    refine J_bipush 6 C iX10_text_0 rfl ?_
    refine J_room (rc2 := 1 + (19 + 2 * tcN fu)) (rs2 := 6 + (30994 + 2 * tsN fu)) (by omega) (by omega) ?_
    refine J_newqS 6 C iX10_text_2 (tsg_in (i := 1391) (by decide +kernel) rfl) (nws_in (i := 1392) (by decide +kernel) rfl) (by decide) rfl (by omega) (fun n1 => ?_)
    refine J_ws (wPl Z L ++ arrS Z n1 6 (fun _ => none)) rfl ?_
    refine J_perm (arrS Z n1 6 (fun _ => none) ++ wPl Z L) List.perm_append_comm ?_
    refine J_dup C iX10_text_5 rfl ?_
    refine J_iconst 0 C iX10_text_6 rfl ?_
    refine J_ldcS 13 C iX10_text_7 rfl ?_
    refine J_aastS (j := 13) (arrS Z n1 6 (va_up (fun _ => none) (Int32.toNatClampNeg 0) (some (zsk Z 13))) ++ wPl Z L) 0 C iX10_text_9 (by decide) rfl (vp_in_nI (n := 0) (by omega) (by omega)) rfl ?_
    rw [show Int32.toNatClampNeg 0 = 0 from rfl]
    refine J_dup C iX10_text_10 rfl ?_
    refine J_iconst 1 C iX10_text_11 rfl ?_
    refine J_ldcS 14 C iX10_text_12 rfl ?_
    refine J_aastS (j := 14) (arrS Z n1 6 (va_up (va_up (fun _ => none) 0 (some (zsk Z 13))) (Int32.toNatClampNeg 1) (some (zsk Z 14))) ++ wPl Z L) 0 C iX10_text_14 (by decide) rfl (vp_in_nI (n := 1) (by omega) (by omega)) rfl ?_
    rw [show Int32.toNatClampNeg 1 = 1 from rfl]
    refine J_dup C iX10_text_15 rfl ?_
    refine J_iconst 2 C iX10_text_16 rfl ?_
    refine J_ldcS 15 C iX10_text_17 rfl ?_
    refine J_aastS (j := 15) (arrS Z n1 6 (va_up (va_up (va_up (fun _ => none) 0 (some (zsk Z 13))) 1 (some (zsk Z 14))) (Int32.toNatClampNeg 2) (some (zsk Z 15))) ++ wPl Z L) 0 C iX10_text_19 (by decide) rfl (vp_in_nI (n := 2) (by omega) (by omega)) rfl ?_
    rw [show Int32.toNatClampNeg 2 = 2 from rfl]
    refine J_dup C iX10_text_20 rfl ?_
    refine J_iconst 3 C iX10_text_21 rfl ?_
    refine J_ldcS 16 C iX10_text_22 rfl ?_
    refine J_aastS (j := 16) (arrS Z n1 6 (va_up (va_up (va_up (va_up (fun _ => none) 0 (some (zsk Z 13))) 1 (some (zsk Z 14))) 2 (some (zsk Z 15))) (Int32.toNatClampNeg 3) (some (zsk Z 16))) ++ wPl Z L) 0 C iX10_text_24 (by decide) rfl (vp_in_nI (n := 3) (by omega) (by omega)) rfl ?_
    rw [show Int32.toNatClampNeg 3 = 3 from rfl]
    refine J_dup C iX10_text_25 rfl ?_
    refine J_iconst 4 C iX10_text_26 rfl ?_
    refine J_ldcS 17 C iX10_text_27 rfl ?_
    refine J_aastS (j := 17) (arrS Z n1 6 (va_up (va_up (va_up (va_up (va_up (fun _ => none) 0 (some (zsk Z 13))) 1 (some (zsk Z 14))) 2 (some (zsk Z 15))) 3 (some (zsk Z 16))) (Int32.toNatClampNeg 4) (some (zsk Z 17))) ++ wPl Z L) 0 C iX10_text_29 (by decide) rfl (vp_in_nI (n := 4) (by omega) (by omega)) rfl ?_
    rw [show Int32.toNatClampNeg 4 = 4 from rfl]
    refine J_dup C iX10_text_30 rfl ?_
    refine J_iconst 5 C iX10_text_31 rfl ?_
    refine J_ldcS 18 C iX10_text_32 rfl ?_
    refine J_aastS (j := 18) (arrS Z n1 6 (va_up (va_up (va_up (va_up (va_up (va_up (fun _ => none) 0 (some (zsk Z 13))) 1 (some (zsk Z 14))) 2 (some (zsk Z 15))) 3 (some (zsk Z 16))) 4 (some (zsk Z 17))) (Int32.toNatClampNeg 5) (some (zsk Z 18))) ++ wPl Z L) 0 C iX10_text_34 (by decide) rfl (vp_in_nI (n := 5) (by omega) (by omega)) rfl ?_
    rw [show Int32.toNatClampNeg 5 = 5 from rfl]
    refine J_rowQ4 0 (g := wdA Z) (arrS Z n1 6 (wdA Z) ++ wPl Z L) rfl (fit3 (fun i => by match i with | ⟨0, _⟩ => rfl  | ⟨1, _⟩ => rfl  | ⟨2, _⟩ => rfl  | ⟨3, _⟩ => rfl  | ⟨4, _⟩ => rfl  | ⟨5, _⟩ => rfl)) rfl ?_
    refine J_astore_n [(1, .ref n1), (0, .ref a)] C iX10_text_35 rfl (by decide) rfl ?_
    refine J_bipush 6 C iX10_text_36 rfl ?_
    refine J_room (rc2 := 1 + (18 + 2 * tcN fu)) (rs2 := 6 + (30988 + 2 * tsN fu)) (by omega) (by omega) ?_
    refine J_newqS 6 C iX10_text_38 (tsg_in (i := 1391) (by decide +kernel) rfl) (nws_in (i := 1392) (by decide +kernel) rfl) (by decide) rfl (by omega) (fun n2 => ?_)
    refine J_ws ((arrS Z n1 6 (wdA Z) ++ wPl Z L) ++ arrS Z n2 6 (fun _ => none)) rfl ?_
    refine J_perm ((arrS Z n1 6 (wdA Z) ++ arrS Z n2 6 (fun _ => none)) ++ wPl Z L) (sw2 _ _ _) ?_
    refine J_dup C iX10_text_41 rfl ?_
    refine J_iconst 0 C iX10_text_42 rfl ?_
    refine J_ldcS 19 C iX10_text_43 rfl ?_
    refine J_aastS (j := 19) ((arrS Z n1 6 (wdA Z) ++ arrS Z n2 6 (va_up (fun _ => none) (Int32.toNatClampNeg 0) (some (zsk Z 19)))) ++ wPl Z L) 1 C iX10_text_45 (by decide) rfl (vp_in_nI (n := 0) (by omega) (by omega)) rfl ?_
    rw [show Int32.toNatClampNeg 0 = 0 from rfl]
    refine J_dup C iX10_text_46 rfl ?_
    refine J_iconst 1 C iX10_text_47 rfl ?_
    refine J_ldcS 20 C iX10_text_48 rfl ?_
    refine J_aastS (j := 20) ((arrS Z n1 6 (wdA Z) ++ arrS Z n2 6 (va_up (va_up (fun _ => none) 0 (some (zsk Z 19))) (Int32.toNatClampNeg 1) (some (zsk Z 20)))) ++ wPl Z L) 1 C iX10_text_50 (by decide) rfl (vp_in_nI (n := 1) (by omega) (by omega)) rfl ?_
    rw [show Int32.toNatClampNeg 1 = 1 from rfl]
    refine J_dup C iX10_text_51 rfl ?_
    refine J_iconst 2 C iX10_text_52 rfl ?_
    refine J_ldcS 21 C iX10_text_53 rfl ?_
    refine J_aastS (j := 21) ((arrS Z n1 6 (wdA Z) ++ arrS Z n2 6 (va_up (va_up (va_up (fun _ => none) 0 (some (zsk Z 19))) 1 (some (zsk Z 20))) (Int32.toNatClampNeg 2) (some (zsk Z 21)))) ++ wPl Z L) 1 C iX10_text_55 (by decide) rfl (vp_in_nI (n := 2) (by omega) (by omega)) rfl ?_
    rw [show Int32.toNatClampNeg 2 = 2 from rfl]
    refine J_dup C iX10_text_56 rfl ?_
    refine J_iconst 3 C iX10_text_57 rfl ?_
    refine J_ldcS 22 C iX10_text_58 rfl ?_
    refine J_aastS (j := 22) ((arrS Z n1 6 (wdA Z) ++ arrS Z n2 6 (va_up (va_up (va_up (va_up (fun _ => none) 0 (some (zsk Z 19))) 1 (some (zsk Z 20))) 2 (some (zsk Z 21))) (Int32.toNatClampNeg 3) (some (zsk Z 22)))) ++ wPl Z L) 1 C iX10_text_60 (by decide) rfl (vp_in_nI (n := 3) (by omega) (by omega)) rfl ?_
    rw [show Int32.toNatClampNeg 3 = 3 from rfl]
    refine J_dup C iX10_text_61 rfl ?_
    refine J_iconst 4 C iX10_text_62 rfl ?_
    refine J_ldcS 23 C iX10_text_63 rfl ?_
    refine J_aastS (j := 23) ((arrS Z n1 6 (wdA Z) ++ arrS Z n2 6 (va_up (va_up (va_up (va_up (va_up (fun _ => none) 0 (some (zsk Z 19))) 1 (some (zsk Z 20))) 2 (some (zsk Z 21))) 3 (some (zsk Z 22))) (Int32.toNatClampNeg 4) (some (zsk Z 23)))) ++ wPl Z L) 1 C iX10_text_65 (by decide) rfl (vp_in_nI (n := 4) (by omega) (by omega)) rfl ?_
    rw [show Int32.toNatClampNeg 4 = 4 from rfl]
    refine J_dup C iX10_text_66 rfl ?_
    refine J_iconst 5 C iX10_text_67 rfl ?_
    refine J_ldcS 24 C iX10_text_68 rfl ?_
    refine J_aastS (j := 24) ((arrS Z n1 6 (wdA Z) ++ arrS Z n2 6 (va_up (va_up (va_up (va_up (va_up (va_up (fun _ => none) 0 (some (zsk Z 19))) 1 (some (zsk Z 20))) 2 (some (zsk Z 21))) 3 (some (zsk Z 22))) 4 (some (zsk Z 23))) (Int32.toNatClampNeg 5) (some (zsk Z 24)))) ++ wPl Z L) 1 C iX10_text_70 (by decide) rfl (vp_in_nI (n := 5) (by omega) (by omega)) rfl ?_
    rw [show Int32.toNatClampNeg 5 = 5 from rfl]
    refine J_rowQ4 1 (g := wdB Z) ((arrS Z n1 6 (wdA Z) ++ arrS Z n2 6 (wdB Z)) ++ wPl Z L) rfl (fit3 (fun i => by match i with | ⟨0, _⟩ => rfl  | ⟨1, _⟩ => rfl  | ⟨2, _⟩ => rfl  | ⟨3, _⟩ => rfl  | ⟨4, _⟩ => rfl  | ⟨5, _⟩ => rfl)) rfl ?_
    refine J_astore_n [(2, .ref n2), (1, .ref n1), (0, .ref a)] C iX10_text_71 rfl (by decide) rfl ?_
    refine J_iconst 5 C iX10_text_72 rfl ?_
    refine J_room (rc2 := 1 + (17 + 2 * tcN fu)) (rs2 := 5 + (30983 + 2 * tsN fu)) (by omega) (by omega) ?_
    refine J_newqS 5 C iX10_text_73 (tsg_in (i := 1391) (by decide +kernel) rfl) (nws_in (i := 1392) (by decide +kernel) rfl) (by decide) rfl (by omega) (fun n3 => ?_)
    refine J_ws (((arrS Z n1 6 (wdA Z) ++ arrS Z n2 6 (wdB Z)) ++ wPl Z L) ++ arrS Z n3 5 (fun _ => none)) rfl ?_
    refine J_perm (((arrS Z n1 6 (wdA Z) ++ arrS Z n2 6 (wdB Z)) ++ arrS Z n3 5 (fun _ => none)) ++ wPl Z L) (sw2 _ _ _) ?_
    refine J_dup C iX10_text_76 rfl ?_
    refine J_iconst 0 C iX10_text_77 rfl ?_
    refine J_ldcS 25 C iX10_text_78 rfl ?_
    refine J_aastS (j := 25) (((arrS Z n1 6 (wdA Z) ++ arrS Z n2 6 (wdB Z)) ++ arrS Z n3 5 (va_up (fun _ => none) (Int32.toNatClampNeg 0) (some (zsk Z 25)))) ++ wPl Z L) 2 C iX10_text_80 (by decide) rfl (vp_in_nI (n := 0) (by omega) (by omega)) rfl ?_
    rw [show Int32.toNatClampNeg 0 = 0 from rfl]
    refine J_dup C iX10_text_81 rfl ?_
    refine J_iconst 1 C iX10_text_82 rfl ?_
    refine J_ldcS 26 C iX10_text_83 rfl ?_
    refine J_aastS (j := 26) (((arrS Z n1 6 (wdA Z) ++ arrS Z n2 6 (wdB Z)) ++ arrS Z n3 5 (va_up (va_up (fun _ => none) 0 (some (zsk Z 25))) (Int32.toNatClampNeg 1) (some (zsk Z 26)))) ++ wPl Z L) 2 C iX10_text_85 (by decide) rfl (vp_in_nI (n := 1) (by omega) (by omega)) rfl ?_
    rw [show Int32.toNatClampNeg 1 = 1 from rfl]
    refine J_dup C iX10_text_86 rfl ?_
    refine J_iconst 2 C iX10_text_87 rfl ?_
    refine J_ldcS 27 C iX10_text_88 rfl ?_
    refine J_aastS (j := 27) (((arrS Z n1 6 (wdA Z) ++ arrS Z n2 6 (wdB Z)) ++ arrS Z n3 5 (va_up (va_up (va_up (fun _ => none) 0 (some (zsk Z 25))) 1 (some (zsk Z 26))) (Int32.toNatClampNeg 2) (some (zsk Z 27)))) ++ wPl Z L) 2 C iX10_text_90 (by decide) rfl (vp_in_nI (n := 2) (by omega) (by omega)) rfl ?_
    rw [show Int32.toNatClampNeg 2 = 2 from rfl]
    refine J_dup C iX10_text_91 rfl ?_
    refine J_iconst 3 C iX10_text_92 rfl ?_
    refine J_ldcS 28 C iX10_text_93 rfl ?_
    refine J_aastS (j := 28) (((arrS Z n1 6 (wdA Z) ++ arrS Z n2 6 (wdB Z)) ++ arrS Z n3 5 (va_up (va_up (va_up (va_up (fun _ => none) 0 (some (zsk Z 25))) 1 (some (zsk Z 26))) 2 (some (zsk Z 27))) (Int32.toNatClampNeg 3) (some (zsk Z 28)))) ++ wPl Z L) 2 C iX10_text_95 (by decide) rfl (vp_in_nI (n := 3) (by omega) (by omega)) rfl ?_
    rw [show Int32.toNatClampNeg 3 = 3 from rfl]
    refine J_dup C iX10_text_96 rfl ?_
    refine J_iconst 4 C iX10_text_97 rfl ?_
    refine J_ldcS 29 C iX10_text_98 rfl ?_
    refine J_aastS (j := 29) (((arrS Z n1 6 (wdA Z) ++ arrS Z n2 6 (wdB Z)) ++ arrS Z n3 5 (va_up (va_up (va_up (va_up (va_up (fun _ => none) 0 (some (zsk Z 25))) 1 (some (zsk Z 26))) 2 (some (zsk Z 27))) 3 (some (zsk Z 28))) (Int32.toNatClampNeg 4) (some (zsk Z 29)))) ++ wPl Z L) 2 C iX10_text_100 (by decide) rfl (vp_in_nI (n := 4) (by omega) (by omega)) rfl ?_
    rw [show Int32.toNatClampNeg 4 = 4 from rfl]
    refine J_rowQ4 2 (g := wdC Z) (((arrS Z n1 6 (wdA Z) ++ arrS Z n2 6 (wdB Z)) ++ arrS Z n3 5 (wdC Z)) ++ wPl Z L) rfl (fit3 (fun i => by match i with | ⟨0, _⟩ => rfl  | ⟨1, _⟩ => rfl  | ⟨2, _⟩ => rfl  | ⟨3, _⟩ => rfl  | ⟨4, _⟩ => rfl)) rfl ?_
    refine J_astore_n [(3, .ref n3), (2, .ref n2), (1, .ref n1), (0, .ref a)] C iX10_text_101 rfl (by decide) rfl ?_
    rcases hks with hk | hk | hk | hk | hk | hk | hk | hk | hk | hk | hk | hk | hk | hk | hk | hk | hk | hk | hk | hk | hk | hk | hk
    · rw [hk] at hi9 hbA hbB
      have htx : txN n (fu + 1) q = ((([] : List Nat) ++ cTx 13) ++ dTx (nuQ n q)) := by rw [txN, tx1, if_pos hk]
      rw [htx] at hl9 ⊢
      refine J_aload_n C iX10_text_102 rfl rfl ?_
      refine J_get (.int 0) ((((arrS Z n1 6 (wdA Z) ++ arrS Z n2 6 (wdB Z)) ++ arrS Z n3 5 (wdC Z))).length + i) C iX10_text_103 gf_X10_7 (mid_at (A := ((arrS Z n1 6 (wdA Z) ++ arrS Z n2 6 (wdB Z)) ++ arrS Z n3 5 (wdC Z))) (M := wPl Z L) (B := []) (by simp only [List.append_assoc, List.append_nil, List.nil_append]) (wPl_at hi9)) rfl ?_
      refine J_ifne 132 C iX10_text_106 rfl (fun h106 => absurd (by decide) h106) (fun h106 => ?_)
      refine J_room (rc2 := 1 + (16 + 2 * tcN fu)) (rs2 := 4 + (30979 + 2 * tsN fu)) (by omega) (by omega) ?_
      refine J_new (ci := 11) [.null, .int 0, .int 0, .int 0] tyJ4 C iX10_text_109 rfl lay_J4 tyJ4_ok (tsg_in (i := 1410) (by decide +kernel) rfl) (tsg_in (i := 1411) (by decide +kernel) rfl) (tsg_in (i := 45) (by decide +kernel) rfl) df_J4 (fun n4 => ?_)
      refine J_ws ((((arrS Z n1 6 (wdA Z) ++ arrS Z n2 6 (wdB Z)) ++ arrS Z n3 5 (wdC Z)) ++ wPl Z L) ++ wS0 Z n4) rfl ?_
      refine J_perm ((((arrS Z n1 6 (wdA Z) ++ arrS Z n2 6 (wdB Z)) ++ arrS Z n3 5 (wdC Z)) ++ wS0 Z n4) ++ wPl Z L) (sw2 _ _ _) ?_
      refine J_dup C iX10_text_112 rfl ?_
      refine J_room (rc2 := 1 + (15 + 2 * tcN fu)) (rs2 := 16 + (30963 + 2 * tsN fu)) (by omega) (by omega) ?_
      refine J_cIb (As := []) (st := .ref n4 :: []) (rc2 := 15 + 2 * tcN fu) (rs2 := 30963 + 2 * tsN fu) (w0 := (wS0 Z n4)) C iX10_text_113 lm_X10_95 yc_J4_init_da8c8 yi_J4_init_da8c8 c_J4_init_da8c8 ((arrS Z n1 6 (wdA Z) ++ arrS Z n2 6 (wdB Z)) ++ arrS Z n3 5 (wdC Z)) (wPl Z L) (by simp only [List.append_assoc, List.append_nil, List.nil_append]) rfl (rmT_m (by decide) (by decide)) (Nat.le_of_ble_eq_true rfl) rfl rfl ?_
      rintro _ _ ⟨rfl, q1, rfl⟩
      refine J_st (.ref n4 :: []) rfl ?_
      refine J_ws (((((arrS Z n1 6 (wdA Z) ++ arrS Z n2 6 (wdB Z)) ++ arrS Z n3 5 (wdC Z)) ++ wSo Z n4 q1 0) ++ arrB Z q1 16 (fun _ => 0)) ++ wPl Z L) (by simp only [List.append_assoc, List.append_nil, List.nil_append]) ?_
      refine J_ldcS 13 C iX10_text_116 rfl ?_
      refine J_room (rc2 := 1 + (14 + 2 * tcN fu)) (rs2 := 4002 + (26961 + 2 * tsN fu)) (by omega) (by omega) ?_
      refine J_cVb (As := [.ref (zsk Z 13)]) (st := []) (rc2 := 14 + 2 * tcN fu) (rs2 := 26961 + 2 * tsN fu) (w0 := (wSo Z n4 q1 0 ++ arrB Z q1 16 (fun _ => 0))) (q0 := 0) C iX10_text_118 lm_X10_96 yc_J4_append_15ec4 yv_J4_append_15ec4 (c_J4_append_C (T := ([] : List Nat)) (i := 13) sb_new (by decide) (by simp only [List.length_append, List.length_nil] at hl9 ⊢; omega)) rfl rfl rfl ((arrS Z n1 6 (wdA Z) ++ arrS Z n2 6 (wdB Z)) ++ arrS Z n3 5 (wdC Z)) (wPl Z L) (by simp only [List.append_assoc, List.append_nil, List.nil_append]) rfl (rmT_m (by decide) (by decide)) (Nat.le_of_ble_eq_true rfl) rfl rfl ?_
      rintro _ _ ⟨rfl, y2, c2, b2, rfl, h2⟩
      refine J_st (.ref n4 :: []) rfl ?_
      refine J_ws (((((arrS Z n1 6 (wdA Z) ++ arrS Z n2 6 (wdB Z)) ++ arrS Z n3 5 (wdC Z)) ++ wSo Z n4 y2 (nI (([] : List Nat) ++ cTx 13).length)) ++ arrB Z y2 c2 b2) ++ wPl Z L) (by simp only [List.append_assoc, List.append_nil, List.nil_append]) ?_
      refine J_aload_n C iX10_text_121 rfl rfl ?_
      refine J_get (.int (nI (nuQ n q))) ((((((arrS Z n1 6 (wdA Z) ++ arrS Z n2 6 (wdB Z)) ++ arrS Z n3 5 (wdC Z)) ++ wSo Z n4 y2 (nI (([] : List Nat) ++ cTx 13).length)) ++ arrB Z y2 c2 b2)).length + i) C iX10_text_122 gf_X10_13 (mid_at (A := ((((arrS Z n1 6 (wdA Z) ++ arrS Z n2 6 (wdB Z)) ++ arrS Z n3 5 (wdC Z)) ++ wSo Z n4 y2 (nI (([] : List Nat) ++ cTx 13).length)) ++ arrB Z y2 c2 b2)) (M := wPl Z L) (B := []) (by simp only [List.append_assoc, List.append_nil, List.nil_append]) (wPl_at hi9)) rfl ?_
      refine J_room (rc2 := 1 + (13 + 2 * tcN fu)) (rs2 := 4002 + (22959 + 2 * tsN fu)) (by omega) (by omega) ?_
      refine J_cVb (As := [.int (nI (nuQ n q))]) (st := []) (rc2 := 13 + 2 * tcN fu) (rs2 := 22959 + 2 * tsN fu) (w0 := ((wSo Z n4 y2 (nI (([] : List Nat) ++ cTx 13).length)) ++ arrB Z y2 c2 b2)) (q0 := 0) C iX10_text_125 lm_X10_100 yc_J4_append_bf812 yv_J4_append_bf812 (c_J4_append_N (T := (([] : List Nat) ++ cTx 13)) (v := (nuQ n q)) h2 hnb (by simp only [List.length_append, List.length_nil] at hl9 ⊢; omega)) rfl rfl rfl ((arrS Z n1 6 (wdA Z) ++ arrS Z n2 6 (wdB Z)) ++ arrS Z n3 5 (wdC Z)) (wPl Z L) (by simp only [List.append_assoc, List.append_nil, List.nil_append]) rfl (rmT_m (by decide) (by decide)) (Nat.le_of_ble_eq_true rfl) rfl rfl ?_
      rintro _ _ ⟨rfl, y3, c3, b3, rfl, h3⟩
      refine J_st (.ref n4 :: []) rfl ?_
      refine J_ws (((((arrS Z n1 6 (wdA Z) ++ arrS Z n2 6 (wdB Z)) ++ arrS Z n3 5 (wdC Z)) ++ wSo Z n4 y3 (nI ((([] : List Nat) ++ cTx 13) ++ dTx (nuQ n q)).length)) ++ arrB Z y3 c3 b3) ++ wPl Z L) (by simp only [List.append_assoc, List.append_nil, List.nil_append]) ?_
      refine J_room (rc2 := 2 + (11 + 2 * tcN fu)) (rs2 := 2004 + (20955 + 2 * tsN fu)) (by omega) (by omega) ?_
      refine J_cVb (As := []) (st := []) (rc2 := 11 + 2 * tcN fu) (rs2 := 20955 + 2 * tsN fu) (w0 := ((wSo Z n4 y3 (nI ((([] : List Nat) ++ cTx 13) ++ dTx (nuQ n q)).length)) ++ arrB Z y3 c3 b3)) (q0 := 0) C iX10_text_128 lm_X10_103 yc_J4_toString_0e30d yv_J4_toString_0e30d (c_J4_toString_0e30d (T := ((([] : List Nat) ++ cTx 13) ++ dTx (nuQ n q))) h3 (by simp only [List.length_append, List.length_nil] at hl9 ⊢; omega)) rfl rfl rfl ((arrS Z n1 6 (wdA Z) ++ arrS Z n2 6 (wdB Z)) ++ arrS Z n3 5 (wdC Z)) (wPl Z L) (by simp only [List.append_assoc, List.append_nil, List.nil_append]) rfl (rmT_m (by decide) (by decide)) (Nat.le_of_ble_eq_true rfl) rfl rfl ?_
      rintro _ _ ⟨s4, t4, b4, rfl, rfl, h4⟩
      refine J_st (.ref s4 :: []) rfl ?_
      refine J_ws (((((((arrS Z n1 6 (wdA Z) ++ arrS Z n2 6 (wdB Z)) ++ arrS Z n3 5 (wdC Z)) ++ wTo Z s4 t4) ++ wSo Z n4 y3 (nI ((([] : List Nat) ++ cTx 13) ++ dTx (nuQ n q)).length)) ++ arrB Z y3 c3 b3) ++ arrB Z t4 (((([] : List Nat) ++ cTx 13) ++ dTx (nuQ n q)).length) b4) ++ wPl Z L) (by simp only [List.append_assoc, List.append_nil, List.nil_append]) ?_
      refine J_drop [] ((arrS Z n1 6 (wdA Z) ++ arrS Z n2 6 (wdB Z)) ++ arrS Z n3 5 (wdC Z)) ((((wTo Z s4 t4 ++ wSo Z n4 y3 (nI ((([] : List Nat) ++ cTx 13) ++ dTx (nuQ n q)).length)) ++ arrB Z y3 c3 b3) ++ arrB Z t4 (((([] : List Nat) ++ cTx 13) ++ dTx (nuQ n q)).length) b4) ++ wPl Z L) (by simp only [List.append_assoc, List.append_nil, List.nil_append]) ?_
      refine J_ws ((((wTo Z s4 t4 ++ wSo Z n4 y3 (nI ((([] : List Nat) ++ cTx 13) ++ dTx (nuQ n q)).length)) ++ arrB Z y3 c3 b3) ++ arrB Z t4 (((([] : List Nat) ++ cTx 13) ++ dTx (nuQ n q)).length) b4) ++ wPl Z L) (by simp only [List.append_assoc, List.append_nil, List.nil_append]) ?_
      refine J_drop (wTo Z s4 t4) ((wSo Z n4 y3 (nI ((([] : List Nat) ++ cTx 13) ++ dTx (nuQ n q)).length)) ++ arrB Z y3 c3 b3) ((arrB Z t4 (((([] : List Nat) ++ cTx 13) ++ dTx (nuQ n q)).length) b4) ++ wPl Z L) (by simp only [List.append_assoc, List.append_nil, List.nil_append]) ?_
      refine J_ws ((wTo Z s4 t4 ++ arrB Z t4 (((([] : List Nat) ++ cTx 13) ++ dTx (nuQ n q)).length) b4) ++ wPl Z L) (by simp only [List.append_assoc, List.append_nil, List.nil_append]) ?_
      refine J_perm ((wTo Z s4 t4 ++ wPl Z L) ++ arrB Z t4 (((([] : List Nat) ++ cTx 13) ++ dTx (nuQ n q)).length) b4) (sw2 _ _ _) ?_
      refine J_perm ((wPl Z L ++ wTo Z s4 t4) ++ arrB Z t4 (((([] : List Nat) ++ cTx 13) ++ dTx (nuQ n q)).length) b4) (List.perm_append_comm.append_right _) ?_
      exact J_aret C E iX10_text_131 (Or.inl ⟨_, rfl⟩) (Or.inr ⟨s4, _, _, rfl, rfl, h4⟩)
    · rw [hk] at hi9 hbA hbB
      have htx : txN n (fu + 1) q = cTx 14 := by rw [txN, tx1, if_neg (by omega), if_pos hk]
      rw [htx] at hl9 ⊢
      refine J_aload_n C iX10_text_102 rfl rfl ?_
      refine J_get (.int 1) ((((arrS Z n1 6 (wdA Z) ++ arrS Z n2 6 (wdB Z)) ++ arrS Z n3 5 (wdC Z))).length + i) C iX10_text_103 gf_X10_7 (mid_at (A := ((arrS Z n1 6 (wdA Z) ++ arrS Z n2 6 (wdB Z)) ++ arrS Z n3 5 (wdC Z))) (M := wPl Z L) (B := []) (by simp only [List.append_assoc, List.append_nil, List.nil_append]) (wPl_at hi9)) rfl ?_
      refine J_ifne 132 C iX10_text_106 rfl (fun h106 => ?_) (fun h106 => absurd h106 (by decide))
      refine J_aload_n C iX10_text_132 rfl rfl ?_
      refine J_get (.int 1) ((((arrS Z n1 6 (wdA Z) ++ arrS Z n2 6 (wdB Z)) ++ arrS Z n3 5 (wdC Z))).length + i) C iX10_text_133 gf_X10_7 (mid_at (A := ((arrS Z n1 6 (wdA Z) ++ arrS Z n2 6 (wdB Z)) ++ arrS Z n3 5 (wdC Z))) (M := wPl Z L) (B := []) (by simp only [List.append_assoc, List.append_nil, List.nil_append]) (wPl_at hi9)) rfl ?_
      refine J_iconst 3 C iX10_text_136 rfl ?_
      refine J_icmpge 147 C iX10_text_137 rfl (fun h137 => absurd h137 (by decide)) (fun h137 => ?_)
      refine J_aload_n C iX10_text_140 rfl rfl ?_
      refine J_aload_n C iX10_text_141 rfl rfl ?_
      refine J_get (.int 1) ((((arrS Z n1 6 (wdA Z) ++ arrS Z n2 6 (wdB Z)) ++ arrS Z n3 5 (wdC Z))).length + i) C iX10_text_142 gf_X10_7 (mid_at (A := ((arrS Z n1 6 (wdA Z) ++ arrS Z n2 6 (wdB Z)) ++ arrS Z n3 5 (wdC Z))) (M := wPl Z L) (B := []) (by simp only [List.append_assoc, List.append_nil, List.nil_append]) (wPl_at hi9)) rfl ?_
      refine J_aaldS 0 C iX10_text_145 rfl (vp_in_nI (n := 1) (by decide) (by decide)) ?_
      rw [show Int32.toNatClampNeg 1 = 1 from rfl]
      refine J_st (.ref (zsk Z 14) :: []) rfl ?_
      refine J_drop [] ((arrS Z n1 6 (wdA Z) ++ arrS Z n2 6 (wdB Z)) ++ arrS Z n3 5 (wdC Z)) (wPl Z L) (by simp only [List.append_assoc, List.append_nil, List.nil_append]) ?_
      refine J_ws (wPl Z L) (by simp only [List.append_assoc, List.append_nil, List.nil_append]) ?_
      exact J_aret C E iX10_text_146 (Or.inl ⟨_, rfl⟩) (Or.inl ⟨14, by decide, rfl, rfl, rfl⟩)
    · rw [hk] at hi9 hbA hbB
      have htx : txN n (fu + 1) q = cTx 15 := by rw [txN, tx1, if_neg (by omega), if_neg (by omega), if_pos hk]
      rw [htx] at hl9 ⊢
      refine J_aload_n C iX10_text_102 rfl rfl ?_
      refine J_get (.int 2) ((((arrS Z n1 6 (wdA Z) ++ arrS Z n2 6 (wdB Z)) ++ arrS Z n3 5 (wdC Z))).length + i) C iX10_text_103 gf_X10_7 (mid_at (A := ((arrS Z n1 6 (wdA Z) ++ arrS Z n2 6 (wdB Z)) ++ arrS Z n3 5 (wdC Z))) (M := wPl Z L) (B := []) (by simp only [List.append_assoc, List.append_nil, List.nil_append]) (wPl_at hi9)) rfl ?_
      refine J_ifne 132 C iX10_text_106 rfl (fun h106 => ?_) (fun h106 => absurd h106 (by decide))
      refine J_aload_n C iX10_text_132 rfl rfl ?_
      refine J_get (.int 2) ((((arrS Z n1 6 (wdA Z) ++ arrS Z n2 6 (wdB Z)) ++ arrS Z n3 5 (wdC Z))).length + i) C iX10_text_133 gf_X10_7 (mid_at (A := ((arrS Z n1 6 (wdA Z) ++ arrS Z n2 6 (wdB Z)) ++ arrS Z n3 5 (wdC Z))) (M := wPl Z L) (B := []) (by simp only [List.append_assoc, List.append_nil, List.nil_append]) (wPl_at hi9)) rfl ?_
      refine J_iconst 3 C iX10_text_136 rfl ?_
      refine J_icmpge 147 C iX10_text_137 rfl (fun h137 => absurd h137 (by decide)) (fun h137 => ?_)
      refine J_aload_n C iX10_text_140 rfl rfl ?_
      refine J_aload_n C iX10_text_141 rfl rfl ?_
      refine J_get (.int 2) ((((arrS Z n1 6 (wdA Z) ++ arrS Z n2 6 (wdB Z)) ++ arrS Z n3 5 (wdC Z))).length + i) C iX10_text_142 gf_X10_7 (mid_at (A := ((arrS Z n1 6 (wdA Z) ++ arrS Z n2 6 (wdB Z)) ++ arrS Z n3 5 (wdC Z))) (M := wPl Z L) (B := []) (by simp only [List.append_assoc, List.append_nil, List.nil_append]) (wPl_at hi9)) rfl ?_
      refine J_aaldS 0 C iX10_text_145 rfl (vp_in_nI (n := 2) (by decide) (by decide)) ?_
      rw [show Int32.toNatClampNeg 2 = 2 from rfl]
      refine J_st (.ref (zsk Z 15) :: []) rfl ?_
      refine J_drop [] ((arrS Z n1 6 (wdA Z) ++ arrS Z n2 6 (wdB Z)) ++ arrS Z n3 5 (wdC Z)) (wPl Z L) (by simp only [List.append_assoc, List.append_nil, List.nil_append]) ?_
      refine J_ws (wPl Z L) (by simp only [List.append_assoc, List.append_nil, List.nil_append]) ?_
      exact J_aret C E iX10_text_146 (Or.inl ⟨_, rfl⟩) (Or.inl ⟨15, by decide, rfl, rfl, rfl⟩)
    · rw [hk] at hi9 hbA hbB
      have htx : txN n (fu + 1) q = (((([] : List Nat) ++ cTx 16) ++ dTx (nuQ n q)) ++ cTx 30) := by rw [txN, tx1, if_neg (by omega), if_neg (by omega), if_neg (by omega), if_pos hk]
      rw [htx] at hl9 ⊢
      refine J_aload_n C iX10_text_102 rfl rfl ?_
      refine J_get (.int 3) ((((arrS Z n1 6 (wdA Z) ++ arrS Z n2 6 (wdB Z)) ++ arrS Z n3 5 (wdC Z))).length + i) C iX10_text_103 gf_X10_7 (mid_at (A := ((arrS Z n1 6 (wdA Z) ++ arrS Z n2 6 (wdB Z)) ++ arrS Z n3 5 (wdC Z))) (M := wPl Z L) (B := []) (by simp only [List.append_assoc, List.append_nil, List.nil_append]) (wPl_at hi9)) rfl ?_
      refine J_ifne 132 C iX10_text_106 rfl (fun h106 => ?_) (fun h106 => absurd h106 (by decide))
      refine J_aload_n C iX10_text_132 rfl rfl ?_
      refine J_get (.int 3) ((((arrS Z n1 6 (wdA Z) ++ arrS Z n2 6 (wdB Z)) ++ arrS Z n3 5 (wdC Z))).length + i) C iX10_text_133 gf_X10_7 (mid_at (A := ((arrS Z n1 6 (wdA Z) ++ arrS Z n2 6 (wdB Z)) ++ arrS Z n3 5 (wdC Z))) (M := wPl Z L) (B := []) (by simp only [List.append_assoc, List.append_nil, List.nil_append]) (wPl_at hi9)) rfl ?_
      refine J_iconst 3 C iX10_text_136 rfl ?_
      refine J_icmpge 147 C iX10_text_137 rfl (fun h137 => ?_) (fun h137 => absurd (by decide) h137)
      refine J_aload_n C iX10_text_147 rfl rfl ?_
      refine J_get (.int 3) ((((arrS Z n1 6 (wdA Z) ++ arrS Z n2 6 (wdB Z)) ++ arrS Z n3 5 (wdC Z))).length + i) C iX10_text_148 gf_X10_7 (mid_at (A := ((arrS Z n1 6 (wdA Z) ++ arrS Z n2 6 (wdB Z)) ++ arrS Z n3 5 (wdC Z))) (M := wPl Z L) (B := []) (by simp only [List.append_assoc, List.append_nil, List.nil_append]) (wPl_at hi9)) rfl ?_
      refine J_bipush 6 C iX10_text_151 rfl ?_
      refine J_icmpge 188 C iX10_text_153 rfl (fun h153 => absurd h153 (by decide)) (fun h153 => ?_)
      refine J_room (rc2 := 1 + (16 + 2 * tcN fu)) (rs2 := 4 + (30979 + 2 * tsN fu)) (by omega) (by omega) ?_
      refine J_new (ci := 11) [.null, .int 0, .int 0, .int 0] tyJ4 C iX10_text_156 rfl lay_J4 tyJ4_ok (tsg_in (i := 1410) (by decide +kernel) rfl) (tsg_in (i := 1411) (by decide +kernel) rfl) (tsg_in (i := 45) (by decide +kernel) rfl) df_J4 (fun n5 => ?_)
      refine J_ws ((((arrS Z n1 6 (wdA Z) ++ arrS Z n2 6 (wdB Z)) ++ arrS Z n3 5 (wdC Z)) ++ wPl Z L) ++ wS0 Z n5) rfl ?_
      refine J_perm ((((arrS Z n1 6 (wdA Z) ++ arrS Z n2 6 (wdB Z)) ++ arrS Z n3 5 (wdC Z)) ++ wS0 Z n5) ++ wPl Z L) (sw2 _ _ _) ?_
      refine J_dup C iX10_text_159 rfl ?_
      refine J_room (rc2 := 1 + (15 + 2 * tcN fu)) (rs2 := 16 + (30963 + 2 * tsN fu)) (by omega) (by omega) ?_
      refine J_cIb (As := []) (st := .ref n5 :: []) (rc2 := 15 + 2 * tcN fu) (rs2 := 30963 + 2 * tsN fu) (w0 := (wS0 Z n5)) C iX10_text_160 lm_X10_95 yc_J4_init_da8c8 yi_J4_init_da8c8 c_J4_init_da8c8 ((arrS Z n1 6 (wdA Z) ++ arrS Z n2 6 (wdB Z)) ++ arrS Z n3 5 (wdC Z)) (wPl Z L) (by simp only [List.append_assoc, List.append_nil, List.nil_append]) rfl (rmT_m (by decide) (by decide)) (Nat.le_of_ble_eq_true rfl) rfl rfl ?_
      rintro _ _ ⟨rfl, q1, rfl⟩
      refine J_st (.ref n5 :: []) rfl ?_
      refine J_ws (((((arrS Z n1 6 (wdA Z) ++ arrS Z n2 6 (wdB Z)) ++ arrS Z n3 5 (wdC Z)) ++ wSo Z n5 q1 0) ++ arrB Z q1 16 (fun _ => 0)) ++ wPl Z L) (by simp only [List.append_assoc, List.append_nil, List.nil_append]) ?_
      refine J_aload_n C iX10_text_163 rfl rfl ?_
      refine J_aload_n C iX10_text_164 rfl rfl ?_
      refine J_get (.int 3) ((((((arrS Z n1 6 (wdA Z) ++ arrS Z n2 6 (wdB Z)) ++ arrS Z n3 5 (wdC Z)) ++ wSo Z n5 q1 0) ++ arrB Z q1 16 (fun _ => 0))).length + i) C iX10_text_165 gf_X10_7 (mid_at (A := ((((arrS Z n1 6 (wdA Z) ++ arrS Z n2 6 (wdB Z)) ++ arrS Z n3 5 (wdC Z)) ++ wSo Z n5 q1 0) ++ arrB Z q1 16 (fun _ => 0))) (M := wPl Z L) (B := []) (by simp only [List.append_assoc, List.append_nil, List.nil_append]) (wPl_at hi9)) rfl ?_
      refine J_aaldS 0 C iX10_text_168 rfl (vp_in_nI (n := 3) (by decide) (by decide)) ?_
      rw [show Int32.toNatClampNeg 3 = 3 from rfl]
      refine J_st (.ref (zsk Z 16) :: .ref n5 :: []) rfl ?_
      refine J_room (rc2 := 1 + (14 + 2 * tcN fu)) (rs2 := 4002 + (26961 + 2 * tsN fu)) (by omega) (by omega) ?_
      refine J_cVb (As := [.ref (zsk Z 16)]) (st := []) (rc2 := 14 + 2 * tcN fu) (rs2 := 26961 + 2 * tsN fu) (w0 := (wSo Z n5 q1 0 ++ arrB Z q1 16 (fun _ => 0))) (q0 := 0) C iX10_text_169 lm_X10_96 yc_J4_append_15ec4 yv_J4_append_15ec4 (c_J4_append_C (T := ([] : List Nat)) (i := 16) sb_new (by decide) (by simp only [List.length_append, List.length_nil] at hl9 ⊢; omega)) rfl rfl rfl ((arrS Z n1 6 (wdA Z) ++ arrS Z n2 6 (wdB Z)) ++ arrS Z n3 5 (wdC Z)) (wPl Z L) (by simp only [List.append_assoc, List.append_nil, List.nil_append]) rfl (rmT_m (by decide) (by decide)) (Nat.le_of_ble_eq_true rfl) rfl rfl ?_
      rintro _ _ ⟨rfl, y2, c2, b2, rfl, h2⟩
      refine J_st (.ref n5 :: []) rfl ?_
      refine J_ws (((((arrS Z n1 6 (wdA Z) ++ arrS Z n2 6 (wdB Z)) ++ arrS Z n3 5 (wdC Z)) ++ wSo Z n5 y2 (nI (([] : List Nat) ++ cTx 16).length)) ++ arrB Z y2 c2 b2) ++ wPl Z L) (by simp only [List.append_assoc, List.append_nil, List.nil_append]) ?_
      refine J_aload_n C iX10_text_172 rfl rfl ?_
      refine J_get (.int (nI (nuQ n q))) ((((((arrS Z n1 6 (wdA Z) ++ arrS Z n2 6 (wdB Z)) ++ arrS Z n3 5 (wdC Z)) ++ wSo Z n5 y2 (nI (([] : List Nat) ++ cTx 16).length)) ++ arrB Z y2 c2 b2)).length + i) C iX10_text_173 gf_X10_13 (mid_at (A := ((((arrS Z n1 6 (wdA Z) ++ arrS Z n2 6 (wdB Z)) ++ arrS Z n3 5 (wdC Z)) ++ wSo Z n5 y2 (nI (([] : List Nat) ++ cTx 16).length)) ++ arrB Z y2 c2 b2)) (M := wPl Z L) (B := []) (by simp only [List.append_assoc, List.append_nil, List.nil_append]) (wPl_at hi9)) rfl ?_
      refine J_room (rc2 := 1 + (13 + 2 * tcN fu)) (rs2 := 4002 + (22959 + 2 * tsN fu)) (by omega) (by omega) ?_
      refine J_cVb (As := [.int (nI (nuQ n q))]) (st := []) (rc2 := 13 + 2 * tcN fu) (rs2 := 22959 + 2 * tsN fu) (w0 := ((wSo Z n5 y2 (nI (([] : List Nat) ++ cTx 16).length)) ++ arrB Z y2 c2 b2)) (q0 := 0) C iX10_text_176 lm_X10_100 yc_J4_append_bf812 yv_J4_append_bf812 (c_J4_append_N (T := (([] : List Nat) ++ cTx 16)) (v := (nuQ n q)) h2 hnb (by simp only [List.length_append, List.length_nil] at hl9 ⊢; omega)) rfl rfl rfl ((arrS Z n1 6 (wdA Z) ++ arrS Z n2 6 (wdB Z)) ++ arrS Z n3 5 (wdC Z)) (wPl Z L) (by simp only [List.append_assoc, List.append_nil, List.nil_append]) rfl (rmT_m (by decide) (by decide)) (Nat.le_of_ble_eq_true rfl) rfl rfl ?_
      rintro _ _ ⟨rfl, y3, c3, b3, rfl, h3⟩
      refine J_st (.ref n5 :: []) rfl ?_
      refine J_ws (((((arrS Z n1 6 (wdA Z) ++ arrS Z n2 6 (wdB Z)) ++ arrS Z n3 5 (wdC Z)) ++ wSo Z n5 y3 (nI ((([] : List Nat) ++ cTx 16) ++ dTx (nuQ n q)).length)) ++ arrB Z y3 c3 b3) ++ wPl Z L) (by simp only [List.append_assoc, List.append_nil, List.nil_append]) ?_
      refine J_ldcS 30 C iX10_text_179 rfl ?_
      refine J_room (rc2 := 1 + (12 + 2 * tcN fu)) (rs2 := 4002 + (18957 + 2 * tsN fu)) (by omega) (by omega) ?_
      refine J_cVb (As := [.ref (zsk Z 30)]) (st := []) (rc2 := 12 + 2 * tcN fu) (rs2 := 18957 + 2 * tsN fu) (w0 := ((wSo Z n5 y3 (nI ((([] : List Nat) ++ cTx 16) ++ dTx (nuQ n q)).length)) ++ arrB Z y3 c3 b3)) (q0 := 0) C iX10_text_181 lm_X10_96 yc_J4_append_15ec4 yv_J4_append_15ec4 (c_J4_append_C (T := ((([] : List Nat) ++ cTx 16) ++ dTx (nuQ n q))) (i := 30) h3 (by decide) (by simp only [List.length_append, List.length_nil] at hl9 ⊢; omega)) rfl rfl rfl ((arrS Z n1 6 (wdA Z) ++ arrS Z n2 6 (wdB Z)) ++ arrS Z n3 5 (wdC Z)) (wPl Z L) (by simp only [List.append_assoc, List.append_nil, List.nil_append]) rfl (rmT_m (by decide) (by decide)) (Nat.le_of_ble_eq_true rfl) rfl rfl ?_
      rintro _ _ ⟨rfl, y4, c4, b4, rfl, h4⟩
      refine J_st (.ref n5 :: []) rfl ?_
      refine J_ws (((((arrS Z n1 6 (wdA Z) ++ arrS Z n2 6 (wdB Z)) ++ arrS Z n3 5 (wdC Z)) ++ wSo Z n5 y4 (nI (((([] : List Nat) ++ cTx 16) ++ dTx (nuQ n q)) ++ cTx 30).length)) ++ arrB Z y4 c4 b4) ++ wPl Z L) (by simp only [List.append_assoc, List.append_nil, List.nil_append]) ?_
      refine J_room (rc2 := 2 + (10 + 2 * tcN fu)) (rs2 := 2004 + (16953 + 2 * tsN fu)) (by omega) (by omega) ?_
      refine J_cVb (As := []) (st := []) (rc2 := 10 + 2 * tcN fu) (rs2 := 16953 + 2 * tsN fu) (w0 := ((wSo Z n5 y4 (nI (((([] : List Nat) ++ cTx 16) ++ dTx (nuQ n q)) ++ cTx 30).length)) ++ arrB Z y4 c4 b4)) (q0 := 0) C iX10_text_184 lm_X10_103 yc_J4_toString_0e30d yv_J4_toString_0e30d (c_J4_toString_0e30d (T := (((([] : List Nat) ++ cTx 16) ++ dTx (nuQ n q)) ++ cTx 30)) h4 (by simp only [List.length_append, List.length_nil] at hl9 ⊢; omega)) rfl rfl rfl ((arrS Z n1 6 (wdA Z) ++ arrS Z n2 6 (wdB Z)) ++ arrS Z n3 5 (wdC Z)) (wPl Z L) (by simp only [List.append_assoc, List.append_nil, List.nil_append]) rfl (rmT_m (by decide) (by decide)) (Nat.le_of_ble_eq_true rfl) rfl rfl ?_
      rintro _ _ ⟨s5, t5, b5, rfl, rfl, h5⟩
      refine J_st (.ref s5 :: []) rfl ?_
      refine J_ws (((((((arrS Z n1 6 (wdA Z) ++ arrS Z n2 6 (wdB Z)) ++ arrS Z n3 5 (wdC Z)) ++ wTo Z s5 t5) ++ wSo Z n5 y4 (nI (((([] : List Nat) ++ cTx 16) ++ dTx (nuQ n q)) ++ cTx 30).length)) ++ arrB Z y4 c4 b4) ++ arrB Z t5 ((((([] : List Nat) ++ cTx 16) ++ dTx (nuQ n q)) ++ cTx 30).length) b5) ++ wPl Z L) (by simp only [List.append_assoc, List.append_nil, List.nil_append]) ?_
      refine J_drop [] ((arrS Z n1 6 (wdA Z) ++ arrS Z n2 6 (wdB Z)) ++ arrS Z n3 5 (wdC Z)) ((((wTo Z s5 t5 ++ wSo Z n5 y4 (nI (((([] : List Nat) ++ cTx 16) ++ dTx (nuQ n q)) ++ cTx 30).length)) ++ arrB Z y4 c4 b4) ++ arrB Z t5 ((((([] : List Nat) ++ cTx 16) ++ dTx (nuQ n q)) ++ cTx 30).length) b5) ++ wPl Z L) (by simp only [List.append_assoc, List.append_nil, List.nil_append]) ?_
      refine J_ws ((((wTo Z s5 t5 ++ wSo Z n5 y4 (nI (((([] : List Nat) ++ cTx 16) ++ dTx (nuQ n q)) ++ cTx 30).length)) ++ arrB Z y4 c4 b4) ++ arrB Z t5 ((((([] : List Nat) ++ cTx 16) ++ dTx (nuQ n q)) ++ cTx 30).length) b5) ++ wPl Z L) (by simp only [List.append_assoc, List.append_nil, List.nil_append]) ?_
      refine J_drop (wTo Z s5 t5) ((wSo Z n5 y4 (nI (((([] : List Nat) ++ cTx 16) ++ dTx (nuQ n q)) ++ cTx 30).length)) ++ arrB Z y4 c4 b4) ((arrB Z t5 ((((([] : List Nat) ++ cTx 16) ++ dTx (nuQ n q)) ++ cTx 30).length) b5) ++ wPl Z L) (by simp only [List.append_assoc, List.append_nil, List.nil_append]) ?_
      refine J_ws ((wTo Z s5 t5 ++ arrB Z t5 ((((([] : List Nat) ++ cTx 16) ++ dTx (nuQ n q)) ++ cTx 30).length) b5) ++ wPl Z L) (by simp only [List.append_assoc, List.append_nil, List.nil_append]) ?_
      refine J_perm ((wTo Z s5 t5 ++ wPl Z L) ++ arrB Z t5 ((((([] : List Nat) ++ cTx 16) ++ dTx (nuQ n q)) ++ cTx 30).length) b5) (sw2 _ _ _) ?_
      refine J_perm ((wPl Z L ++ wTo Z s5 t5) ++ arrB Z t5 ((((([] : List Nat) ++ cTx 16) ++ dTx (nuQ n q)) ++ cTx 30).length) b5) (List.perm_append_comm.append_right _) ?_
      exact J_aret C E iX10_text_187 (Or.inl ⟨_, rfl⟩) (Or.inr ⟨s5, _, _, rfl, rfl, h5⟩)
    · rw [hk] at hi9 hbA hbB
      have htx : txN n (fu + 1) q = (((([] : List Nat) ++ cTx 17) ++ dTx (nuQ n q)) ++ cTx 30) := by rw [txN, tx1, if_neg (by omega), if_neg (by omega), if_neg (by omega), if_neg (by omega), if_pos hk]
      rw [htx] at hl9 ⊢
      refine J_aload_n C iX10_text_102 rfl rfl ?_
      refine J_get (.int 4) ((((arrS Z n1 6 (wdA Z) ++ arrS Z n2 6 (wdB Z)) ++ arrS Z n3 5 (wdC Z))).length + i) C iX10_text_103 gf_X10_7 (mid_at (A := ((arrS Z n1 6 (wdA Z) ++ arrS Z n2 6 (wdB Z)) ++ arrS Z n3 5 (wdC Z))) (M := wPl Z L) (B := []) (by simp only [List.append_assoc, List.append_nil, List.nil_append]) (wPl_at hi9)) rfl ?_
      refine J_ifne 132 C iX10_text_106 rfl (fun h106 => ?_) (fun h106 => absurd h106 (by decide))
      refine J_aload_n C iX10_text_132 rfl rfl ?_
      refine J_get (.int 4) ((((arrS Z n1 6 (wdA Z) ++ arrS Z n2 6 (wdB Z)) ++ arrS Z n3 5 (wdC Z))).length + i) C iX10_text_133 gf_X10_7 (mid_at (A := ((arrS Z n1 6 (wdA Z) ++ arrS Z n2 6 (wdB Z)) ++ arrS Z n3 5 (wdC Z))) (M := wPl Z L) (B := []) (by simp only [List.append_assoc, List.append_nil, List.nil_append]) (wPl_at hi9)) rfl ?_
      refine J_iconst 3 C iX10_text_136 rfl ?_
      refine J_icmpge 147 C iX10_text_137 rfl (fun h137 => ?_) (fun h137 => absurd (by decide) h137)
      refine J_aload_n C iX10_text_147 rfl rfl ?_
      refine J_get (.int 4) ((((arrS Z n1 6 (wdA Z) ++ arrS Z n2 6 (wdB Z)) ++ arrS Z n3 5 (wdC Z))).length + i) C iX10_text_148 gf_X10_7 (mid_at (A := ((arrS Z n1 6 (wdA Z) ++ arrS Z n2 6 (wdB Z)) ++ arrS Z n3 5 (wdC Z))) (M := wPl Z L) (B := []) (by simp only [List.append_assoc, List.append_nil, List.nil_append]) (wPl_at hi9)) rfl ?_
      refine J_bipush 6 C iX10_text_151 rfl ?_
      refine J_icmpge 188 C iX10_text_153 rfl (fun h153 => absurd h153 (by decide)) (fun h153 => ?_)
      refine J_room (rc2 := 1 + (16 + 2 * tcN fu)) (rs2 := 4 + (30979 + 2 * tsN fu)) (by omega) (by omega) ?_
      refine J_new (ci := 11) [.null, .int 0, .int 0, .int 0] tyJ4 C iX10_text_156 rfl lay_J4 tyJ4_ok (tsg_in (i := 1410) (by decide +kernel) rfl) (tsg_in (i := 1411) (by decide +kernel) rfl) (tsg_in (i := 45) (by decide +kernel) rfl) df_J4 (fun n6 => ?_)
      refine J_ws ((((arrS Z n1 6 (wdA Z) ++ arrS Z n2 6 (wdB Z)) ++ arrS Z n3 5 (wdC Z)) ++ wPl Z L) ++ wS0 Z n6) rfl ?_
      refine J_perm ((((arrS Z n1 6 (wdA Z) ++ arrS Z n2 6 (wdB Z)) ++ arrS Z n3 5 (wdC Z)) ++ wS0 Z n6) ++ wPl Z L) (sw2 _ _ _) ?_
      refine J_dup C iX10_text_159 rfl ?_
      refine J_room (rc2 := 1 + (15 + 2 * tcN fu)) (rs2 := 16 + (30963 + 2 * tsN fu)) (by omega) (by omega) ?_
      refine J_cIb (As := []) (st := .ref n6 :: []) (rc2 := 15 + 2 * tcN fu) (rs2 := 30963 + 2 * tsN fu) (w0 := (wS0 Z n6)) C iX10_text_160 lm_X10_95 yc_J4_init_da8c8 yi_J4_init_da8c8 c_J4_init_da8c8 ((arrS Z n1 6 (wdA Z) ++ arrS Z n2 6 (wdB Z)) ++ arrS Z n3 5 (wdC Z)) (wPl Z L) (by simp only [List.append_assoc, List.append_nil, List.nil_append]) rfl (rmT_m (by decide) (by decide)) (Nat.le_of_ble_eq_true rfl) rfl rfl ?_
      rintro _ _ ⟨rfl, q1, rfl⟩
      refine J_st (.ref n6 :: []) rfl ?_
      refine J_ws (((((arrS Z n1 6 (wdA Z) ++ arrS Z n2 6 (wdB Z)) ++ arrS Z n3 5 (wdC Z)) ++ wSo Z n6 q1 0) ++ arrB Z q1 16 (fun _ => 0)) ++ wPl Z L) (by simp only [List.append_assoc, List.append_nil, List.nil_append]) ?_
      refine J_aload_n C iX10_text_163 rfl rfl ?_
      refine J_aload_n C iX10_text_164 rfl rfl ?_
      refine J_get (.int 4) ((((((arrS Z n1 6 (wdA Z) ++ arrS Z n2 6 (wdB Z)) ++ arrS Z n3 5 (wdC Z)) ++ wSo Z n6 q1 0) ++ arrB Z q1 16 (fun _ => 0))).length + i) C iX10_text_165 gf_X10_7 (mid_at (A := ((((arrS Z n1 6 (wdA Z) ++ arrS Z n2 6 (wdB Z)) ++ arrS Z n3 5 (wdC Z)) ++ wSo Z n6 q1 0) ++ arrB Z q1 16 (fun _ => 0))) (M := wPl Z L) (B := []) (by simp only [List.append_assoc, List.append_nil, List.nil_append]) (wPl_at hi9)) rfl ?_
      refine J_aaldS 0 C iX10_text_168 rfl (vp_in_nI (n := 4) (by decide) (by decide)) ?_
      rw [show Int32.toNatClampNeg 4 = 4 from rfl]
      refine J_st (.ref (zsk Z 17) :: .ref n6 :: []) rfl ?_
      refine J_room (rc2 := 1 + (14 + 2 * tcN fu)) (rs2 := 4002 + (26961 + 2 * tsN fu)) (by omega) (by omega) ?_
      refine J_cVb (As := [.ref (zsk Z 17)]) (st := []) (rc2 := 14 + 2 * tcN fu) (rs2 := 26961 + 2 * tsN fu) (w0 := (wSo Z n6 q1 0 ++ arrB Z q1 16 (fun _ => 0))) (q0 := 0) C iX10_text_169 lm_X10_96 yc_J4_append_15ec4 yv_J4_append_15ec4 (c_J4_append_C (T := ([] : List Nat)) (i := 17) sb_new (by decide) (by simp only [List.length_append, List.length_nil] at hl9 ⊢; omega)) rfl rfl rfl ((arrS Z n1 6 (wdA Z) ++ arrS Z n2 6 (wdB Z)) ++ arrS Z n3 5 (wdC Z)) (wPl Z L) (by simp only [List.append_assoc, List.append_nil, List.nil_append]) rfl (rmT_m (by decide) (by decide)) (Nat.le_of_ble_eq_true rfl) rfl rfl ?_
      rintro _ _ ⟨rfl, y2, c2, b2, rfl, h2⟩
      refine J_st (.ref n6 :: []) rfl ?_
      refine J_ws (((((arrS Z n1 6 (wdA Z) ++ arrS Z n2 6 (wdB Z)) ++ arrS Z n3 5 (wdC Z)) ++ wSo Z n6 y2 (nI (([] : List Nat) ++ cTx 17).length)) ++ arrB Z y2 c2 b2) ++ wPl Z L) (by simp only [List.append_assoc, List.append_nil, List.nil_append]) ?_
      refine J_aload_n C iX10_text_172 rfl rfl ?_
      refine J_get (.int (nI (nuQ n q))) ((((((arrS Z n1 6 (wdA Z) ++ arrS Z n2 6 (wdB Z)) ++ arrS Z n3 5 (wdC Z)) ++ wSo Z n6 y2 (nI (([] : List Nat) ++ cTx 17).length)) ++ arrB Z y2 c2 b2)).length + i) C iX10_text_173 gf_X10_13 (mid_at (A := ((((arrS Z n1 6 (wdA Z) ++ arrS Z n2 6 (wdB Z)) ++ arrS Z n3 5 (wdC Z)) ++ wSo Z n6 y2 (nI (([] : List Nat) ++ cTx 17).length)) ++ arrB Z y2 c2 b2)) (M := wPl Z L) (B := []) (by simp only [List.append_assoc, List.append_nil, List.nil_append]) (wPl_at hi9)) rfl ?_
      refine J_room (rc2 := 1 + (13 + 2 * tcN fu)) (rs2 := 4002 + (22959 + 2 * tsN fu)) (by omega) (by omega) ?_
      refine J_cVb (As := [.int (nI (nuQ n q))]) (st := []) (rc2 := 13 + 2 * tcN fu) (rs2 := 22959 + 2 * tsN fu) (w0 := ((wSo Z n6 y2 (nI (([] : List Nat) ++ cTx 17).length)) ++ arrB Z y2 c2 b2)) (q0 := 0) C iX10_text_176 lm_X10_100 yc_J4_append_bf812 yv_J4_append_bf812 (c_J4_append_N (T := (([] : List Nat) ++ cTx 17)) (v := (nuQ n q)) h2 hnb (by simp only [List.length_append, List.length_nil] at hl9 ⊢; omega)) rfl rfl rfl ((arrS Z n1 6 (wdA Z) ++ arrS Z n2 6 (wdB Z)) ++ arrS Z n3 5 (wdC Z)) (wPl Z L) (by simp only [List.append_assoc, List.append_nil, List.nil_append]) rfl (rmT_m (by decide) (by decide)) (Nat.le_of_ble_eq_true rfl) rfl rfl ?_
      rintro _ _ ⟨rfl, y3, c3, b3, rfl, h3⟩
      refine J_st (.ref n6 :: []) rfl ?_
      refine J_ws (((((arrS Z n1 6 (wdA Z) ++ arrS Z n2 6 (wdB Z)) ++ arrS Z n3 5 (wdC Z)) ++ wSo Z n6 y3 (nI ((([] : List Nat) ++ cTx 17) ++ dTx (nuQ n q)).length)) ++ arrB Z y3 c3 b3) ++ wPl Z L) (by simp only [List.append_assoc, List.append_nil, List.nil_append]) ?_
      refine J_ldcS 30 C iX10_text_179 rfl ?_
      refine J_room (rc2 := 1 + (12 + 2 * tcN fu)) (rs2 := 4002 + (18957 + 2 * tsN fu)) (by omega) (by omega) ?_
      refine J_cVb (As := [.ref (zsk Z 30)]) (st := []) (rc2 := 12 + 2 * tcN fu) (rs2 := 18957 + 2 * tsN fu) (w0 := ((wSo Z n6 y3 (nI ((([] : List Nat) ++ cTx 17) ++ dTx (nuQ n q)).length)) ++ arrB Z y3 c3 b3)) (q0 := 0) C iX10_text_181 lm_X10_96 yc_J4_append_15ec4 yv_J4_append_15ec4 (c_J4_append_C (T := ((([] : List Nat) ++ cTx 17) ++ dTx (nuQ n q))) (i := 30) h3 (by decide) (by simp only [List.length_append, List.length_nil] at hl9 ⊢; omega)) rfl rfl rfl ((arrS Z n1 6 (wdA Z) ++ arrS Z n2 6 (wdB Z)) ++ arrS Z n3 5 (wdC Z)) (wPl Z L) (by simp only [List.append_assoc, List.append_nil, List.nil_append]) rfl (rmT_m (by decide) (by decide)) (Nat.le_of_ble_eq_true rfl) rfl rfl ?_
      rintro _ _ ⟨rfl, y4, c4, b4, rfl, h4⟩
      refine J_st (.ref n6 :: []) rfl ?_
      refine J_ws (((((arrS Z n1 6 (wdA Z) ++ arrS Z n2 6 (wdB Z)) ++ arrS Z n3 5 (wdC Z)) ++ wSo Z n6 y4 (nI (((([] : List Nat) ++ cTx 17) ++ dTx (nuQ n q)) ++ cTx 30).length)) ++ arrB Z y4 c4 b4) ++ wPl Z L) (by simp only [List.append_assoc, List.append_nil, List.nil_append]) ?_
      refine J_room (rc2 := 2 + (10 + 2 * tcN fu)) (rs2 := 2004 + (16953 + 2 * tsN fu)) (by omega) (by omega) ?_
      refine J_cVb (As := []) (st := []) (rc2 := 10 + 2 * tcN fu) (rs2 := 16953 + 2 * tsN fu) (w0 := ((wSo Z n6 y4 (nI (((([] : List Nat) ++ cTx 17) ++ dTx (nuQ n q)) ++ cTx 30).length)) ++ arrB Z y4 c4 b4)) (q0 := 0) C iX10_text_184 lm_X10_103 yc_J4_toString_0e30d yv_J4_toString_0e30d (c_J4_toString_0e30d (T := (((([] : List Nat) ++ cTx 17) ++ dTx (nuQ n q)) ++ cTx 30)) h4 (by simp only [List.length_append, List.length_nil] at hl9 ⊢; omega)) rfl rfl rfl ((arrS Z n1 6 (wdA Z) ++ arrS Z n2 6 (wdB Z)) ++ arrS Z n3 5 (wdC Z)) (wPl Z L) (by simp only [List.append_assoc, List.append_nil, List.nil_append]) rfl (rmT_m (by decide) (by decide)) (Nat.le_of_ble_eq_true rfl) rfl rfl ?_
      rintro _ _ ⟨s5, t5, b5, rfl, rfl, h5⟩
      refine J_st (.ref s5 :: []) rfl ?_
      refine J_ws (((((((arrS Z n1 6 (wdA Z) ++ arrS Z n2 6 (wdB Z)) ++ arrS Z n3 5 (wdC Z)) ++ wTo Z s5 t5) ++ wSo Z n6 y4 (nI (((([] : List Nat) ++ cTx 17) ++ dTx (nuQ n q)) ++ cTx 30).length)) ++ arrB Z y4 c4 b4) ++ arrB Z t5 ((((([] : List Nat) ++ cTx 17) ++ dTx (nuQ n q)) ++ cTx 30).length) b5) ++ wPl Z L) (by simp only [List.append_assoc, List.append_nil, List.nil_append]) ?_
      refine J_drop [] ((arrS Z n1 6 (wdA Z) ++ arrS Z n2 6 (wdB Z)) ++ arrS Z n3 5 (wdC Z)) ((((wTo Z s5 t5 ++ wSo Z n6 y4 (nI (((([] : List Nat) ++ cTx 17) ++ dTx (nuQ n q)) ++ cTx 30).length)) ++ arrB Z y4 c4 b4) ++ arrB Z t5 ((((([] : List Nat) ++ cTx 17) ++ dTx (nuQ n q)) ++ cTx 30).length) b5) ++ wPl Z L) (by simp only [List.append_assoc, List.append_nil, List.nil_append]) ?_
      refine J_ws ((((wTo Z s5 t5 ++ wSo Z n6 y4 (nI (((([] : List Nat) ++ cTx 17) ++ dTx (nuQ n q)) ++ cTx 30).length)) ++ arrB Z y4 c4 b4) ++ arrB Z t5 ((((([] : List Nat) ++ cTx 17) ++ dTx (nuQ n q)) ++ cTx 30).length) b5) ++ wPl Z L) (by simp only [List.append_assoc, List.append_nil, List.nil_append]) ?_
      refine J_drop (wTo Z s5 t5) ((wSo Z n6 y4 (nI (((([] : List Nat) ++ cTx 17) ++ dTx (nuQ n q)) ++ cTx 30).length)) ++ arrB Z y4 c4 b4) ((arrB Z t5 ((((([] : List Nat) ++ cTx 17) ++ dTx (nuQ n q)) ++ cTx 30).length) b5) ++ wPl Z L) (by simp only [List.append_assoc, List.append_nil, List.nil_append]) ?_
      refine J_ws ((wTo Z s5 t5 ++ arrB Z t5 ((((([] : List Nat) ++ cTx 17) ++ dTx (nuQ n q)) ++ cTx 30).length) b5) ++ wPl Z L) (by simp only [List.append_assoc, List.append_nil, List.nil_append]) ?_
      refine J_perm ((wTo Z s5 t5 ++ wPl Z L) ++ arrB Z t5 ((((([] : List Nat) ++ cTx 17) ++ dTx (nuQ n q)) ++ cTx 30).length) b5) (sw2 _ _ _) ?_
      refine J_perm ((wPl Z L ++ wTo Z s5 t5) ++ arrB Z t5 ((((([] : List Nat) ++ cTx 17) ++ dTx (nuQ n q)) ++ cTx 30).length) b5) (List.perm_append_comm.append_right _) ?_
      exact J_aret C E iX10_text_187 (Or.inl ⟨_, rfl⟩) (Or.inr ⟨s5, _, _, rfl, rfl, h5⟩)
    · rw [hk] at hi9 hbA hbB
      have htx : txN n (fu + 1) q = (((([] : List Nat) ++ cTx 18) ++ dTx (nuQ n q)) ++ cTx 30) := by rw [txN, tx1, if_neg (by omega), if_neg (by omega), if_neg (by omega), if_neg (by omega), if_neg (by omega), if_pos hk]
      rw [htx] at hl9 ⊢
      refine J_aload_n C iX10_text_102 rfl rfl ?_
      refine J_get (.int 5) ((((arrS Z n1 6 (wdA Z) ++ arrS Z n2 6 (wdB Z)) ++ arrS Z n3 5 (wdC Z))).length + i) C iX10_text_103 gf_X10_7 (mid_at (A := ((arrS Z n1 6 (wdA Z) ++ arrS Z n2 6 (wdB Z)) ++ arrS Z n3 5 (wdC Z))) (M := wPl Z L) (B := []) (by simp only [List.append_assoc, List.append_nil, List.nil_append]) (wPl_at hi9)) rfl ?_
      refine J_ifne 132 C iX10_text_106 rfl (fun h106 => ?_) (fun h106 => absurd h106 (by decide))
      refine J_aload_n C iX10_text_132 rfl rfl ?_
      refine J_get (.int 5) ((((arrS Z n1 6 (wdA Z) ++ arrS Z n2 6 (wdB Z)) ++ arrS Z n3 5 (wdC Z))).length + i) C iX10_text_133 gf_X10_7 (mid_at (A := ((arrS Z n1 6 (wdA Z) ++ arrS Z n2 6 (wdB Z)) ++ arrS Z n3 5 (wdC Z))) (M := wPl Z L) (B := []) (by simp only [List.append_assoc, List.append_nil, List.nil_append]) (wPl_at hi9)) rfl ?_
      refine J_iconst 3 C iX10_text_136 rfl ?_
      refine J_icmpge 147 C iX10_text_137 rfl (fun h137 => ?_) (fun h137 => absurd (by decide) h137)
      refine J_aload_n C iX10_text_147 rfl rfl ?_
      refine J_get (.int 5) ((((arrS Z n1 6 (wdA Z) ++ arrS Z n2 6 (wdB Z)) ++ arrS Z n3 5 (wdC Z))).length + i) C iX10_text_148 gf_X10_7 (mid_at (A := ((arrS Z n1 6 (wdA Z) ++ arrS Z n2 6 (wdB Z)) ++ arrS Z n3 5 (wdC Z))) (M := wPl Z L) (B := []) (by simp only [List.append_assoc, List.append_nil, List.nil_append]) (wPl_at hi9)) rfl ?_
      refine J_bipush 6 C iX10_text_151 rfl ?_
      refine J_icmpge 188 C iX10_text_153 rfl (fun h153 => absurd h153 (by decide)) (fun h153 => ?_)
      refine J_room (rc2 := 1 + (16 + 2 * tcN fu)) (rs2 := 4 + (30979 + 2 * tsN fu)) (by omega) (by omega) ?_
      refine J_new (ci := 11) [.null, .int 0, .int 0, .int 0] tyJ4 C iX10_text_156 rfl lay_J4 tyJ4_ok (tsg_in (i := 1410) (by decide +kernel) rfl) (tsg_in (i := 1411) (by decide +kernel) rfl) (tsg_in (i := 45) (by decide +kernel) rfl) df_J4 (fun n7 => ?_)
      refine J_ws ((((arrS Z n1 6 (wdA Z) ++ arrS Z n2 6 (wdB Z)) ++ arrS Z n3 5 (wdC Z)) ++ wPl Z L) ++ wS0 Z n7) rfl ?_
      refine J_perm ((((arrS Z n1 6 (wdA Z) ++ arrS Z n2 6 (wdB Z)) ++ arrS Z n3 5 (wdC Z)) ++ wS0 Z n7) ++ wPl Z L) (sw2 _ _ _) ?_
      refine J_dup C iX10_text_159 rfl ?_
      refine J_room (rc2 := 1 + (15 + 2 * tcN fu)) (rs2 := 16 + (30963 + 2 * tsN fu)) (by omega) (by omega) ?_
      refine J_cIb (As := []) (st := .ref n7 :: []) (rc2 := 15 + 2 * tcN fu) (rs2 := 30963 + 2 * tsN fu) (w0 := (wS0 Z n7)) C iX10_text_160 lm_X10_95 yc_J4_init_da8c8 yi_J4_init_da8c8 c_J4_init_da8c8 ((arrS Z n1 6 (wdA Z) ++ arrS Z n2 6 (wdB Z)) ++ arrS Z n3 5 (wdC Z)) (wPl Z L) (by simp only [List.append_assoc, List.append_nil, List.nil_append]) rfl (rmT_m (by decide) (by decide)) (Nat.le_of_ble_eq_true rfl) rfl rfl ?_
      rintro _ _ ⟨rfl, q1, rfl⟩
      refine J_st (.ref n7 :: []) rfl ?_
      refine J_ws (((((arrS Z n1 6 (wdA Z) ++ arrS Z n2 6 (wdB Z)) ++ arrS Z n3 5 (wdC Z)) ++ wSo Z n7 q1 0) ++ arrB Z q1 16 (fun _ => 0)) ++ wPl Z L) (by simp only [List.append_assoc, List.append_nil, List.nil_append]) ?_
      refine J_aload_n C iX10_text_163 rfl rfl ?_
      refine J_aload_n C iX10_text_164 rfl rfl ?_
      refine J_get (.int 5) ((((((arrS Z n1 6 (wdA Z) ++ arrS Z n2 6 (wdB Z)) ++ arrS Z n3 5 (wdC Z)) ++ wSo Z n7 q1 0) ++ arrB Z q1 16 (fun _ => 0))).length + i) C iX10_text_165 gf_X10_7 (mid_at (A := ((((arrS Z n1 6 (wdA Z) ++ arrS Z n2 6 (wdB Z)) ++ arrS Z n3 5 (wdC Z)) ++ wSo Z n7 q1 0) ++ arrB Z q1 16 (fun _ => 0))) (M := wPl Z L) (B := []) (by simp only [List.append_assoc, List.append_nil, List.nil_append]) (wPl_at hi9)) rfl ?_
      refine J_aaldS 0 C iX10_text_168 rfl (vp_in_nI (n := 5) (by decide) (by decide)) ?_
      rw [show Int32.toNatClampNeg 5 = 5 from rfl]
      refine J_st (.ref (zsk Z 18) :: .ref n7 :: []) rfl ?_
      refine J_room (rc2 := 1 + (14 + 2 * tcN fu)) (rs2 := 4002 + (26961 + 2 * tsN fu)) (by omega) (by omega) ?_
      refine J_cVb (As := [.ref (zsk Z 18)]) (st := []) (rc2 := 14 + 2 * tcN fu) (rs2 := 26961 + 2 * tsN fu) (w0 := (wSo Z n7 q1 0 ++ arrB Z q1 16 (fun _ => 0))) (q0 := 0) C iX10_text_169 lm_X10_96 yc_J4_append_15ec4 yv_J4_append_15ec4 (c_J4_append_C (T := ([] : List Nat)) (i := 18) sb_new (by decide) (by simp only [List.length_append, List.length_nil] at hl9 ⊢; omega)) rfl rfl rfl ((arrS Z n1 6 (wdA Z) ++ arrS Z n2 6 (wdB Z)) ++ arrS Z n3 5 (wdC Z)) (wPl Z L) (by simp only [List.append_assoc, List.append_nil, List.nil_append]) rfl (rmT_m (by decide) (by decide)) (Nat.le_of_ble_eq_true rfl) rfl rfl ?_
      rintro _ _ ⟨rfl, y2, c2, b2, rfl, h2⟩
      refine J_st (.ref n7 :: []) rfl ?_
      refine J_ws (((((arrS Z n1 6 (wdA Z) ++ arrS Z n2 6 (wdB Z)) ++ arrS Z n3 5 (wdC Z)) ++ wSo Z n7 y2 (nI (([] : List Nat) ++ cTx 18).length)) ++ arrB Z y2 c2 b2) ++ wPl Z L) (by simp only [List.append_assoc, List.append_nil, List.nil_append]) ?_
      refine J_aload_n C iX10_text_172 rfl rfl ?_
      refine J_get (.int (nI (nuQ n q))) ((((((arrS Z n1 6 (wdA Z) ++ arrS Z n2 6 (wdB Z)) ++ arrS Z n3 5 (wdC Z)) ++ wSo Z n7 y2 (nI (([] : List Nat) ++ cTx 18).length)) ++ arrB Z y2 c2 b2)).length + i) C iX10_text_173 gf_X10_13 (mid_at (A := ((((arrS Z n1 6 (wdA Z) ++ arrS Z n2 6 (wdB Z)) ++ arrS Z n3 5 (wdC Z)) ++ wSo Z n7 y2 (nI (([] : List Nat) ++ cTx 18).length)) ++ arrB Z y2 c2 b2)) (M := wPl Z L) (B := []) (by simp only [List.append_assoc, List.append_nil, List.nil_append]) (wPl_at hi9)) rfl ?_
      refine J_room (rc2 := 1 + (13 + 2 * tcN fu)) (rs2 := 4002 + (22959 + 2 * tsN fu)) (by omega) (by omega) ?_
      refine J_cVb (As := [.int (nI (nuQ n q))]) (st := []) (rc2 := 13 + 2 * tcN fu) (rs2 := 22959 + 2 * tsN fu) (w0 := ((wSo Z n7 y2 (nI (([] : List Nat) ++ cTx 18).length)) ++ arrB Z y2 c2 b2)) (q0 := 0) C iX10_text_176 lm_X10_100 yc_J4_append_bf812 yv_J4_append_bf812 (c_J4_append_N (T := (([] : List Nat) ++ cTx 18)) (v := (nuQ n q)) h2 hnb (by simp only [List.length_append, List.length_nil] at hl9 ⊢; omega)) rfl rfl rfl ((arrS Z n1 6 (wdA Z) ++ arrS Z n2 6 (wdB Z)) ++ arrS Z n3 5 (wdC Z)) (wPl Z L) (by simp only [List.append_assoc, List.append_nil, List.nil_append]) rfl (rmT_m (by decide) (by decide)) (Nat.le_of_ble_eq_true rfl) rfl rfl ?_
      rintro _ _ ⟨rfl, y3, c3, b3, rfl, h3⟩
      refine J_st (.ref n7 :: []) rfl ?_
      refine J_ws (((((arrS Z n1 6 (wdA Z) ++ arrS Z n2 6 (wdB Z)) ++ arrS Z n3 5 (wdC Z)) ++ wSo Z n7 y3 (nI ((([] : List Nat) ++ cTx 18) ++ dTx (nuQ n q)).length)) ++ arrB Z y3 c3 b3) ++ wPl Z L) (by simp only [List.append_assoc, List.append_nil, List.nil_append]) ?_
      refine J_ldcS 30 C iX10_text_179 rfl ?_
      refine J_room (rc2 := 1 + (12 + 2 * tcN fu)) (rs2 := 4002 + (18957 + 2 * tsN fu)) (by omega) (by omega) ?_
      refine J_cVb (As := [.ref (zsk Z 30)]) (st := []) (rc2 := 12 + 2 * tcN fu) (rs2 := 18957 + 2 * tsN fu) (w0 := ((wSo Z n7 y3 (nI ((([] : List Nat) ++ cTx 18) ++ dTx (nuQ n q)).length)) ++ arrB Z y3 c3 b3)) (q0 := 0) C iX10_text_181 lm_X10_96 yc_J4_append_15ec4 yv_J4_append_15ec4 (c_J4_append_C (T := ((([] : List Nat) ++ cTx 18) ++ dTx (nuQ n q))) (i := 30) h3 (by decide) (by simp only [List.length_append, List.length_nil] at hl9 ⊢; omega)) rfl rfl rfl ((arrS Z n1 6 (wdA Z) ++ arrS Z n2 6 (wdB Z)) ++ arrS Z n3 5 (wdC Z)) (wPl Z L) (by simp only [List.append_assoc, List.append_nil, List.nil_append]) rfl (rmT_m (by decide) (by decide)) (Nat.le_of_ble_eq_true rfl) rfl rfl ?_
      rintro _ _ ⟨rfl, y4, c4, b4, rfl, h4⟩
      refine J_st (.ref n7 :: []) rfl ?_
      refine J_ws (((((arrS Z n1 6 (wdA Z) ++ arrS Z n2 6 (wdB Z)) ++ arrS Z n3 5 (wdC Z)) ++ wSo Z n7 y4 (nI (((([] : List Nat) ++ cTx 18) ++ dTx (nuQ n q)) ++ cTx 30).length)) ++ arrB Z y4 c4 b4) ++ wPl Z L) (by simp only [List.append_assoc, List.append_nil, List.nil_append]) ?_
      refine J_room (rc2 := 2 + (10 + 2 * tcN fu)) (rs2 := 2004 + (16953 + 2 * tsN fu)) (by omega) (by omega) ?_
      refine J_cVb (As := []) (st := []) (rc2 := 10 + 2 * tcN fu) (rs2 := 16953 + 2 * tsN fu) (w0 := ((wSo Z n7 y4 (nI (((([] : List Nat) ++ cTx 18) ++ dTx (nuQ n q)) ++ cTx 30).length)) ++ arrB Z y4 c4 b4)) (q0 := 0) C iX10_text_184 lm_X10_103 yc_J4_toString_0e30d yv_J4_toString_0e30d (c_J4_toString_0e30d (T := (((([] : List Nat) ++ cTx 18) ++ dTx (nuQ n q)) ++ cTx 30)) h4 (by simp only [List.length_append, List.length_nil] at hl9 ⊢; omega)) rfl rfl rfl ((arrS Z n1 6 (wdA Z) ++ arrS Z n2 6 (wdB Z)) ++ arrS Z n3 5 (wdC Z)) (wPl Z L) (by simp only [List.append_assoc, List.append_nil, List.nil_append]) rfl (rmT_m (by decide) (by decide)) (Nat.le_of_ble_eq_true rfl) rfl rfl ?_
      rintro _ _ ⟨s5, t5, b5, rfl, rfl, h5⟩
      refine J_st (.ref s5 :: []) rfl ?_
      refine J_ws (((((((arrS Z n1 6 (wdA Z) ++ arrS Z n2 6 (wdB Z)) ++ arrS Z n3 5 (wdC Z)) ++ wTo Z s5 t5) ++ wSo Z n7 y4 (nI (((([] : List Nat) ++ cTx 18) ++ dTx (nuQ n q)) ++ cTx 30).length)) ++ arrB Z y4 c4 b4) ++ arrB Z t5 ((((([] : List Nat) ++ cTx 18) ++ dTx (nuQ n q)) ++ cTx 30).length) b5) ++ wPl Z L) (by simp only [List.append_assoc, List.append_nil, List.nil_append]) ?_
      refine J_drop [] ((arrS Z n1 6 (wdA Z) ++ arrS Z n2 6 (wdB Z)) ++ arrS Z n3 5 (wdC Z)) ((((wTo Z s5 t5 ++ wSo Z n7 y4 (nI (((([] : List Nat) ++ cTx 18) ++ dTx (nuQ n q)) ++ cTx 30).length)) ++ arrB Z y4 c4 b4) ++ arrB Z t5 ((((([] : List Nat) ++ cTx 18) ++ dTx (nuQ n q)) ++ cTx 30).length) b5) ++ wPl Z L) (by simp only [List.append_assoc, List.append_nil, List.nil_append]) ?_
      refine J_ws ((((wTo Z s5 t5 ++ wSo Z n7 y4 (nI (((([] : List Nat) ++ cTx 18) ++ dTx (nuQ n q)) ++ cTx 30).length)) ++ arrB Z y4 c4 b4) ++ arrB Z t5 ((((([] : List Nat) ++ cTx 18) ++ dTx (nuQ n q)) ++ cTx 30).length) b5) ++ wPl Z L) (by simp only [List.append_assoc, List.append_nil, List.nil_append]) ?_
      refine J_drop (wTo Z s5 t5) ((wSo Z n7 y4 (nI (((([] : List Nat) ++ cTx 18) ++ dTx (nuQ n q)) ++ cTx 30).length)) ++ arrB Z y4 c4 b4) ((arrB Z t5 ((((([] : List Nat) ++ cTx 18) ++ dTx (nuQ n q)) ++ cTx 30).length) b5) ++ wPl Z L) (by simp only [List.append_assoc, List.append_nil, List.nil_append]) ?_
      refine J_ws ((wTo Z s5 t5 ++ arrB Z t5 ((((([] : List Nat) ++ cTx 18) ++ dTx (nuQ n q)) ++ cTx 30).length) b5) ++ wPl Z L) (by simp only [List.append_assoc, List.append_nil, List.nil_append]) ?_
      refine J_perm ((wTo Z s5 t5 ++ wPl Z L) ++ arrB Z t5 ((((([] : List Nat) ++ cTx 18) ++ dTx (nuQ n q)) ++ cTx 30).length) b5) (sw2 _ _ _) ?_
      refine J_perm ((wPl Z L ++ wTo Z s5 t5) ++ arrB Z t5 ((((([] : List Nat) ++ cTx 18) ++ dTx (nuQ n q)) ++ cTx 30).length) b5) (List.perm_append_comm.append_right _) ?_
      exact J_aret C E iX10_text_187 (Or.inl ⟨_, rfl⟩) (Or.inr ⟨s5, _, _, rfl, rfl, h5⟩)
    · rw [hk] at hi9 hbA hbB
      obtain ⟨xa, rfl, hxa⟩ := hbA rfl
      have htx : txN n (fu + 1) q = (((([] : List Nat) ++ cTx 31) ++ (txN n fu (kdA q))) ++ cTx 32) := by rw [txN, tx1, if_neg (by omega), if_neg (by omega), if_neg (by omega), if_neg (by omega), if_neg (by omega), if_neg (by omega), if_pos hk]
      rw [htx] at hl9 ⊢
      refine J_aload_n C iX10_text_102 rfl rfl ?_
      refine J_get (.int 6) ((((arrS Z n1 6 (wdA Z) ++ arrS Z n2 6 (wdB Z)) ++ arrS Z n3 5 (wdC Z))).length + i) C iX10_text_103 gf_X10_7 (mid_at (A := ((arrS Z n1 6 (wdA Z) ++ arrS Z n2 6 (wdB Z)) ++ arrS Z n3 5 (wdC Z))) (M := wPl Z L) (B := []) (by simp only [List.append_assoc, List.append_nil, List.nil_append]) (wPl_at hi9)) rfl ?_
      refine J_ifne 132 C iX10_text_106 rfl (fun h106 => ?_) (fun h106 => absurd h106 (by decide))
      refine J_aload_n C iX10_text_132 rfl rfl ?_
      refine J_get (.int 6) ((((arrS Z n1 6 (wdA Z) ++ arrS Z n2 6 (wdB Z)) ++ arrS Z n3 5 (wdC Z))).length + i) C iX10_text_133 gf_X10_7 (mid_at (A := ((arrS Z n1 6 (wdA Z) ++ arrS Z n2 6 (wdB Z)) ++ arrS Z n3 5 (wdC Z))) (M := wPl Z L) (B := []) (by simp only [List.append_assoc, List.append_nil, List.nil_append]) (wPl_at hi9)) rfl ?_
      refine J_iconst 3 C iX10_text_136 rfl ?_
      refine J_icmpge 147 C iX10_text_137 rfl (fun h137 => ?_) (fun h137 => absurd (by decide) h137)
      refine J_aload_n C iX10_text_147 rfl rfl ?_
      refine J_get (.int 6) ((((arrS Z n1 6 (wdA Z) ++ arrS Z n2 6 (wdB Z)) ++ arrS Z n3 5 (wdC Z))).length + i) C iX10_text_148 gf_X10_7 (mid_at (A := ((arrS Z n1 6 (wdA Z) ++ arrS Z n2 6 (wdB Z)) ++ arrS Z n3 5 (wdC Z))) (M := wPl Z L) (B := []) (by simp only [List.append_assoc, List.append_nil, List.nil_append]) (wPl_at hi9)) rfl ?_
      refine J_bipush 6 C iX10_text_151 rfl ?_
      refine J_icmpge 188 C iX10_text_153 rfl (fun h153 => ?_) (fun h153 => absurd (by decide) h153)
      refine J_aload_n C iX10_text_188 rfl rfl ?_
      refine J_get (.int 6) ((((arrS Z n1 6 (wdA Z) ++ arrS Z n2 6 (wdB Z)) ++ arrS Z n3 5 (wdC Z))).length + i) C iX10_text_189 gf_X10_7 (mid_at (A := ((arrS Z n1 6 (wdA Z) ++ arrS Z n2 6 (wdB Z)) ++ arrS Z n3 5 (wdC Z))) (M := wPl Z L) (B := []) (by simp only [List.append_assoc, List.append_nil, List.nil_append]) (wPl_at hi9)) rfl ?_
      refine J_bipush 6 C iX10_text_192 rfl ?_
      refine J_icmpne 228 C iX10_text_194 rfl (fun h194 => absurd (by decide) h194) (fun h194 => ?_)
      refine J_room (rc2 := 1 + (16 + 2 * tcN fu)) (rs2 := 4 + (30979 + 2 * tsN fu)) (by omega) (by omega) ?_
      refine J_new (ci := 11) [.null, .int 0, .int 0, .int 0] tyJ4 C iX10_text_197 rfl lay_J4 tyJ4_ok (tsg_in (i := 1410) (by decide +kernel) rfl) (tsg_in (i := 1411) (by decide +kernel) rfl) (tsg_in (i := 45) (by decide +kernel) rfl) df_J4 (fun n8 => ?_)
      refine J_ws ((((arrS Z n1 6 (wdA Z) ++ arrS Z n2 6 (wdB Z)) ++ arrS Z n3 5 (wdC Z)) ++ wPl Z L) ++ wS0 Z n8) rfl ?_
      refine J_perm ((((arrS Z n1 6 (wdA Z) ++ arrS Z n2 6 (wdB Z)) ++ arrS Z n3 5 (wdC Z)) ++ wS0 Z n8) ++ wPl Z L) (sw2 _ _ _) ?_
      refine J_dup C iX10_text_200 rfl ?_
      refine J_room (rc2 := 1 + (15 + 2 * tcN fu)) (rs2 := 16 + (30963 + 2 * tsN fu)) (by omega) (by omega) ?_
      refine J_cIb (As := []) (st := .ref n8 :: []) (rc2 := 15 + 2 * tcN fu) (rs2 := 30963 + 2 * tsN fu) (w0 := (wS0 Z n8)) C iX10_text_201 lm_X10_95 yc_J4_init_da8c8 yi_J4_init_da8c8 c_J4_init_da8c8 ((arrS Z n1 6 (wdA Z) ++ arrS Z n2 6 (wdB Z)) ++ arrS Z n3 5 (wdC Z)) (wPl Z L) (by simp only [List.append_assoc, List.append_nil, List.nil_append]) rfl (rmT_m (by decide) (by decide)) (Nat.le_of_ble_eq_true rfl) rfl rfl ?_
      rintro _ _ ⟨rfl, q1, rfl⟩
      refine J_st (.ref n8 :: []) rfl ?_
      refine J_ws (((((arrS Z n1 6 (wdA Z) ++ arrS Z n2 6 (wdB Z)) ++ arrS Z n3 5 (wdC Z)) ++ wSo Z n8 q1 0) ++ arrB Z q1 16 (fun _ => 0)) ++ wPl Z L) (by simp only [List.append_assoc, List.append_nil, List.nil_append]) ?_
      refine J_ldcS 31 C iX10_text_204 rfl ?_
      refine J_room (rc2 := 1 + (14 + 2 * tcN fu)) (rs2 := 4002 + (26961 + 2 * tsN fu)) (by omega) (by omega) ?_
      refine J_cVb (As := [.ref (zsk Z 31)]) (st := []) (rc2 := 14 + 2 * tcN fu) (rs2 := 26961 + 2 * tsN fu) (w0 := (wSo Z n8 q1 0 ++ arrB Z q1 16 (fun _ => 0))) (q0 := 0) C iX10_text_206 lm_X10_96 yc_J4_append_15ec4 yv_J4_append_15ec4 (c_J4_append_C (T := ([] : List Nat)) (i := 31) sb_new (by decide) (by simp only [List.length_append, List.length_nil] at hl9 ⊢; omega)) rfl rfl rfl ((arrS Z n1 6 (wdA Z) ++ arrS Z n2 6 (wdB Z)) ++ arrS Z n3 5 (wdC Z)) (wPl Z L) (by simp only [List.append_assoc, List.append_nil, List.nil_append]) rfl (rmT_m (by decide) (by decide)) (Nat.le_of_ble_eq_true rfl) rfl rfl ?_
      rintro _ _ ⟨rfl, y2, c2, b2, rfl, h2⟩
      refine J_st (.ref n8 :: []) rfl ?_
      refine J_ws (((((arrS Z n1 6 (wdA Z) ++ arrS Z n2 6 (wdB Z)) ++ arrS Z n3 5 (wdC Z)) ++ wSo Z n8 y2 (nI (([] : List Nat) ++ cTx 31).length)) ++ arrB Z y2 c2 b2) ++ wPl Z L) (by simp only [List.append_assoc, List.append_nil, List.nil_append]) ?_
      refine J_aload_n C iX10_text_209 rfl rfl ?_
      refine J_get (.ref xa) ((((((arrS Z n1 6 (wdA Z) ++ arrS Z n2 6 (wdB Z)) ++ arrS Z n3 5 (wdC Z)) ++ wSo Z n8 y2 (nI (([] : List Nat) ++ cTx 31).length)) ++ arrB Z y2 c2 b2)).length + i) C iX10_text_210 gf_X10_36 (mid_at (A := ((((arrS Z n1 6 (wdA Z) ++ arrS Z n2 6 (wdB Z)) ++ arrS Z n3 5 (wdC Z)) ++ wSo Z n8 y2 (nI (([] : List Nat) ++ cTx 31).length)) ++ arrB Z y2 c2 b2)) (M := wPl Z L) (B := []) (by simp only [List.append_assoc, List.append_nil, List.nil_append]) (wPl_at hi9)) rfl ?_
      refine J_alt (ι := Nat × Nat × (Nat → Int32)) (P := fun i9 => SbT ((([] : List Nat) ++ cTx 31) ++ txN n fu (kdA q)) i9.2.1 i9.2.2) (13 + 1 * tcN fu) (22959 + 1 * tsN fu) 219 (fun _ => [(3, .ref n3), (2, .ref n2), (1, .ref n1), (0, .ref a)]) (fun _ => .ref n8 :: []) (fun i9 => (((((arrS Z n1 6 (wdA Z) ++ arrS Z n2 6 (wdB Z)) ++ arrS Z n3 5 (wdC Z)) ++ wSo Z n8 i9.1 (nI ((([] : List Nat) ++ cTx 31) ++ txN n fu (kdA q)).length)) ++ arrB Z i9.1 i9.2.1 i9.2.2) ++ wPl Z L)) (fun i9 hi9_ => ?_) (fun hk219_3 => ?_)
      · obtain ⟨z3, k3, m3⟩ := i9
        have g3 : SbT ((([] : List Nat) ++ cTx 31) ++ txN n fu (kdA q)) k3 m3 := hi9_
        refine J_ws (((((arrS Z n1 6 (wdA Z) ++ arrS Z n2 6 (wdB Z)) ++ arrS Z n3 5 (wdC Z)) ++ wSo Z n8 z3 (nI ((([] : List Nat) ++ cTx 31) ++ txN n fu (kdA q)).length)) ++ arrB Z z3 k3 m3) ++ wPl Z L) rfl ?_
        refine J_ldcS 32 C iX10_text_219 rfl ?_
        refine J_room (rc2 := 1 + (12 + 1 * tcN fu)) (rs2 := 4002 + (18957 + 1 * tsN fu)) (by omega) (by omega) ?_
        refine J_cVb (As := [.ref (zsk Z 32)]) (st := []) (rc2 := 12 + 1 * tcN fu) (rs2 := 18957 + 1 * tsN fu) (w0 := ((wSo Z n8 z3 (nI ((([] : List Nat) ++ cTx 31) ++ txN n fu (kdA q)).length)) ++ arrB Z z3 k3 m3)) (q0 := 0) C iX10_text_221 lm_X10_96 yc_J4_append_15ec4 yv_J4_append_15ec4 (c_J4_append_C (T := ((([] : List Nat) ++ cTx 31) ++ txN n fu (kdA q))) (i := 32) g3 (by decide) (by simp only [List.length_append, List.length_nil] at hl9 ⊢; omega)) rfl rfl rfl ((arrS Z n1 6 (wdA Z) ++ arrS Z n2 6 (wdB Z)) ++ arrS Z n3 5 (wdC Z)) (wPl Z L) (by simp only [List.append_assoc, List.append_nil, List.nil_append]) rfl (rmT_m (by decide) (by decide)) (Nat.le_of_ble_eq_true rfl) rfl rfl ?_
        rintro _ _ ⟨rfl, y4, c4, b4, rfl, h4⟩
        refine J_st (.ref n8 :: []) rfl ?_
        refine J_ws (((((arrS Z n1 6 (wdA Z) ++ arrS Z n2 6 (wdB Z)) ++ arrS Z n3 5 (wdC Z)) ++ wSo Z n8 y4 (nI (((([] : List Nat) ++ cTx 31) ++ txN n fu (kdA q)) ++ cTx 32).length)) ++ arrB Z y4 c4 b4) ++ wPl Z L) (by simp only [List.append_assoc, List.append_nil, List.nil_append]) ?_
        refine J_room (rc2 := 2 + (10 + 1 * tcN fu)) (rs2 := 2004 + (16953 + 1 * tsN fu)) (by omega) (by omega) ?_
        refine J_cVb (As := []) (st := []) (rc2 := 10 + 1 * tcN fu) (rs2 := 16953 + 1 * tsN fu) (w0 := ((wSo Z n8 y4 (nI (((([] : List Nat) ++ cTx 31) ++ txN n fu (kdA q)) ++ cTx 32).length)) ++ arrB Z y4 c4 b4)) (q0 := 0) C iX10_text_224 lm_X10_103 yc_J4_toString_0e30d yv_J4_toString_0e30d (c_J4_toString_0e30d (T := (((([] : List Nat) ++ cTx 31) ++ txN n fu (kdA q)) ++ cTx 32)) h4 (by simp only [List.length_append, List.length_nil] at hl9 ⊢; omega)) rfl rfl rfl ((arrS Z n1 6 (wdA Z) ++ arrS Z n2 6 (wdB Z)) ++ arrS Z n3 5 (wdC Z)) (wPl Z L) (by simp only [List.append_assoc, List.append_nil, List.nil_append]) rfl (rmT_m (by decide) (by decide)) (Nat.le_of_ble_eq_true rfl) rfl rfl ?_
        rintro _ _ ⟨s5, t5, b5, rfl, rfl, h5⟩
        refine J_st (.ref s5 :: []) rfl ?_
        refine J_ws (((((((arrS Z n1 6 (wdA Z) ++ arrS Z n2 6 (wdB Z)) ++ arrS Z n3 5 (wdC Z)) ++ wTo Z s5 t5) ++ wSo Z n8 y4 (nI (((([] : List Nat) ++ cTx 31) ++ txN n fu (kdA q)) ++ cTx 32).length)) ++ arrB Z y4 c4 b4) ++ arrB Z t5 ((((([] : List Nat) ++ cTx 31) ++ txN n fu (kdA q)) ++ cTx 32).length) b5) ++ wPl Z L) (by simp only [List.append_assoc, List.append_nil, List.nil_append]) ?_
        refine J_drop [] ((arrS Z n1 6 (wdA Z) ++ arrS Z n2 6 (wdB Z)) ++ arrS Z n3 5 (wdC Z)) ((((wTo Z s5 t5 ++ wSo Z n8 y4 (nI (((([] : List Nat) ++ cTx 31) ++ txN n fu (kdA q)) ++ cTx 32).length)) ++ arrB Z y4 c4 b4) ++ arrB Z t5 ((((([] : List Nat) ++ cTx 31) ++ txN n fu (kdA q)) ++ cTx 32).length) b5) ++ wPl Z L) (by simp only [List.append_assoc, List.append_nil, List.nil_append]) ?_
        refine J_ws ((((wTo Z s5 t5 ++ wSo Z n8 y4 (nI (((([] : List Nat) ++ cTx 31) ++ txN n fu (kdA q)) ++ cTx 32).length)) ++ arrB Z y4 c4 b4) ++ arrB Z t5 ((((([] : List Nat) ++ cTx 31) ++ txN n fu (kdA q)) ++ cTx 32).length) b5) ++ wPl Z L) (by simp only [List.append_assoc, List.append_nil, List.nil_append]) ?_
        refine J_drop (wTo Z s5 t5) ((wSo Z n8 y4 (nI (((([] : List Nat) ++ cTx 31) ++ txN n fu (kdA q)) ++ cTx 32).length)) ++ arrB Z y4 c4 b4) ((arrB Z t5 ((((([] : List Nat) ++ cTx 31) ++ txN n fu (kdA q)) ++ cTx 32).length) b5) ++ wPl Z L) (by simp only [List.append_assoc, List.append_nil, List.nil_append]) ?_
        refine J_ws ((wTo Z s5 t5 ++ arrB Z t5 ((((([] : List Nat) ++ cTx 31) ++ txN n fu (kdA q)) ++ cTx 32).length) b5) ++ wPl Z L) (by simp only [List.append_assoc, List.append_nil, List.nil_append]) ?_
        refine J_perm ((wTo Z s5 t5 ++ wPl Z L) ++ arrB Z t5 ((((([] : List Nat) ++ cTx 31) ++ txN n fu (kdA q)) ++ cTx 32).length) b5) (sw2 _ _ _) ?_
        refine J_perm ((wPl Z L ++ wTo Z s5 t5) ++ arrB Z t5 ((((([] : List Nat) ++ cTx 31) ++ txN n fu (kdA q)) ++ cTx 32).length) b5) (List.perm_append_comm.append_right _) ?_
        exact J_aret C E iX10_text_227 (Or.inl ⟨_, rfl⟩) (Or.inr ⟨s5, _, _, rfl, rfl, h5⟩)
      · refine J_room (rc2 := (tcN fu) + (14 + 1 * tcN fu)) (rs2 := (tsN fu) + (26961 + 1 * tsN fu)) (by omega) (by omega) ?_
        obtain ⟨j1_, e1_, f1_⟩ := InT.at hxa
        refine J_cVb (As := []) (st := .ref n8 :: []) (rc2 := 14 + 1 * tcN fu) (rs2 := 26961 + 1 * tsN fu) (w0 := wPl Z L) (q0 := j1_) C iX10_text_213 lm_X10_111 yc_X10_text yv_X10_text (ih (q := kdA q) hxa (by simp only [List.length_append] at hl9; omega)) rfl rfl (wPl_at f1_) ((((arrS Z n1 6 (wdA Z) ++ arrS Z n2 6 (wdB Z)) ++ arrS Z n3 5 (wdC Z)) ++ wSo Z n8 y2 (nI (([] : List Nat) ++ cTx 31).length)) ++ arrB Z y2 c2 b2) [] (by simp only [List.append_assoc, List.append_nil, List.nil_append]) rfl (rmT_le (by omega) (by decide)) (Nat.le_of_ble_eq_true rfl) rfl rfl ?_
        rintro _ _ (⟨j3, hj3, rfl, rfl, e3⟩ | ⟨s3, t3, b3, rfl, rfl, e3⟩)
        · refine J_st (.ref (zsk Z j3) :: .ref n8 :: []) rfl ?_
          refine J_ws (((((arrS Z n1 6 (wdA Z) ++ arrS Z n2 6 (wdB Z)) ++ arrS Z n3 5 (wdC Z)) ++ wSo Z n8 y2 (nI (([] : List Nat) ++ cTx 31).length)) ++ arrB Z y2 c2 b2) ++ wPl Z L) (by simp only [List.append_assoc, List.append_nil, List.nil_append]) ?_
          refine J_room (rc2 := 1 + (13 + 1 * tcN fu)) (rs2 := 4002 + (22959 + 1 * tsN fu)) (by omega) (by omega) ?_
          refine J_cVb (As := [.ref (zsk Z j3)]) (st := []) (rc2 := 13 + 1 * tcN fu) (rs2 := 22959 + 1 * tsN fu) (w0 := ((wSo Z n8 y2 (nI (([] : List Nat) ++ cTx 31).length)) ++ arrB Z y2 c2 b2)) (q0 := 0) C iX10_text_216 lm_X10_96 yc_J4_append_15ec4 yv_J4_append_15ec4 (c_J4_append_C (T := (([] : List Nat) ++ cTx 31)) (i := j3) h2 hj3 (by rw [← e3]; simp only [List.length_append, List.length_nil] at hl9 ⊢; omega)) rfl rfl rfl ((arrS Z n1 6 (wdA Z) ++ arrS Z n2 6 (wdB Z)) ++ arrS Z n3 5 (wdC Z)) (wPl Z L) (by simp only [List.append_assoc, List.append_nil, List.nil_append]) rfl (rmT_m (by decide) (by decide)) (Nat.le_of_ble_eq_true rfl) rfl rfl ?_
          rintro _ _ ⟨rfl, y6, c6, b6, rfl, h6⟩
          refine J_st (.ref n8 :: []) rfl ?_
          refine J_ws (((((arrS Z n1 6 (wdA Z) ++ arrS Z n2 6 (wdB Z)) ++ arrS Z n3 5 (wdC Z)) ++ wSo Z n8 y6 (nI ((([] : List Nat) ++ cTx 31) ++ cTx j3).length)) ++ arrB Z y6 c6 b6) ++ wPl Z L) (by simp only [List.append_assoc, List.append_nil, List.nil_append]) ?_
          rw [← e3]
          exact hk219_3 (y6, c6, b6) (by rw [e3]; exact h6)
        · refine J_st (.ref s3 :: .ref n8 :: []) rfl ?_
          refine J_ws (((((((arrS Z n1 6 (wdA Z) ++ arrS Z n2 6 (wdB Z)) ++ arrS Z n3 5 (wdC Z)) ++ wSo Z n8 y2 (nI (([] : List Nat) ++ cTx 31).length)) ++ arrB Z y2 c2 b2) ++ wPl Z L) ++ wTo Z s3 t3) ++ arrB Z t3 ((txN n fu (kdA q)).length) b3) (by simp only [List.append_assoc, List.append_nil, List.nil_append]) ?_
          refine J_perm (((((((arrS Z n1 6 (wdA Z) ++ arrS Z n2 6 (wdB Z)) ++ arrS Z n3 5 (wdC Z)) ++ wSo Z n8 y2 (nI (([] : List Nat) ++ cTx 31).length)) ++ arrB Z y2 c2 b2) ++ wTo Z s3 t3) ++ wPl Z L) ++ arrB Z t3 ((txN n fu (kdA q)).length) b3) ((sw2 _ _ _).append_right _) ?_
          refine J_perm (((((((arrS Z n1 6 (wdA Z) ++ arrS Z n2 6 (wdB Z)) ++ arrS Z n3 5 (wdC Z)) ++ wSo Z n8 y2 (nI (([] : List Nat) ++ cTx 31).length)) ++ arrB Z y2 c2 b2) ++ wTo Z s3 t3) ++ arrB Z t3 ((txN n fu (kdA q)).length) b3) ++ wPl Z L) (sw2 _ _ _) ?_
          refine J_room (rc2 := 1 + (13 + 1 * tcN fu)) (rs2 := 4002 + (22959 + 1 * tsN fu)) (by omega) (by omega) ?_
          refine J_cVb (As := [.ref s3]) (st := []) (rc2 := 13 + 1 * tcN fu) (rs2 := 22959 + 1 * tsN fu) (w0 := ((((wSo Z n8 y2 (nI (([] : List Nat) ++ cTx 31).length)) ++ arrB Z y2 c2 b2) ++ wTo Z s3 t3) ++ arrB Z t3 ((txN n fu (kdA q)).length) b3)) (q0 := 0) C iX10_text_216 lm_X10_96 yc_J4_append_15ec4 yv_J4_append_15ec4 (c_J4_append_D (T := (([] : List Nat) ++ cTx 31)) (S := txN n fu (kdA q)) h2 e3 (by simp only [List.length_append, List.length_nil] at hl9 ⊢; omega)) rfl rfl rfl ((arrS Z n1 6 (wdA Z) ++ arrS Z n2 6 (wdB Z)) ++ arrS Z n3 5 (wdC Z)) (wPl Z L) (by simp only [List.append_assoc, List.append_nil, List.nil_append]) rfl (rmT_m (by decide) (by decide)) (Nat.le_of_ble_eq_true rfl) rfl rfl ?_
          rintro _ _ ⟨rfl, y7, c7, b7, rfl, h7⟩
          refine J_st (.ref n8 :: []) rfl ?_
          refine J_ws (((((((arrS Z n1 6 (wdA Z) ++ arrS Z n2 6 (wdB Z)) ++ arrS Z n3 5 (wdC Z)) ++ wSo Z n8 y7 (nI ((([] : List Nat) ++ cTx 31) ++ txN n fu (kdA q)).length)) ++ arrB Z y7 c7 b7) ++ wTo Z s3 t3) ++ arrB Z t3 ((txN n fu (kdA q)).length) b3) ++ wPl Z L) (by simp only [List.append_assoc, List.append_nil, List.nil_append]) ?_
          refine J_drop ((((arrS Z n1 6 (wdA Z) ++ arrS Z n2 6 (wdB Z)) ++ arrS Z n3 5 (wdC Z)) ++ wSo Z n8 y7 (nI ((([] : List Nat) ++ cTx 31) ++ txN n fu (kdA q)).length)) ++ arrB Z y7 c7 b7) (wTo Z s3 t3 ++ arrB Z t3 ((txN n fu (kdA q)).length) b3) (wPl Z L) (by simp only [List.append_assoc, List.append_nil, List.nil_append]) ?_
          refine J_ws (((((arrS Z n1 6 (wdA Z) ++ arrS Z n2 6 (wdB Z)) ++ arrS Z n3 5 (wdC Z)) ++ wSo Z n8 y7 (nI ((([] : List Nat) ++ cTx 31) ++ txN n fu (kdA q)).length)) ++ arrB Z y7 c7 b7) ++ wPl Z L) (by simp only [List.append_assoc, List.append_nil, List.nil_append]) ?_
          exact hk219_3 (y7, c7, b7) h7
    · rw [hk] at hi9 hbA hbB
      obtain ⟨xa, rfl, hxa⟩ := hbA rfl
      obtain ⟨xb, rfl, hxb⟩ := hbB rfl
      have htx : txN n (fu + 1) q = (((((((([] : List Nat) ++ cTx 33) ++ (txN n fu (kdA q))) ++ cTx 32) ++ cTx 19) ++ cTx 33) ++ (txN n fu (kdB q))) ++ cTx 32) := by rw [txN, tx1, if_neg (by omega), if_neg (by omega), if_neg (by omega), if_neg (by omega), if_neg (by omega), if_neg (by omega), if_neg (by omega), if_pos hk]
      rw [htx] at hl9 ⊢
      refine J_aload_n C iX10_text_102 rfl rfl ?_
      refine J_get (.int 7) ((((arrS Z n1 6 (wdA Z) ++ arrS Z n2 6 (wdB Z)) ++ arrS Z n3 5 (wdC Z))).length + i) C iX10_text_103 gf_X10_7 (mid_at (A := ((arrS Z n1 6 (wdA Z) ++ arrS Z n2 6 (wdB Z)) ++ arrS Z n3 5 (wdC Z))) (M := wPl Z L) (B := []) (by simp only [List.append_assoc, List.append_nil, List.nil_append]) (wPl_at hi9)) rfl ?_
      refine J_ifne 132 C iX10_text_106 rfl (fun h106 => ?_) (fun h106 => absurd h106 (by decide))
      refine J_aload_n C iX10_text_132 rfl rfl ?_
      refine J_get (.int 7) ((((arrS Z n1 6 (wdA Z) ++ arrS Z n2 6 (wdB Z)) ++ arrS Z n3 5 (wdC Z))).length + i) C iX10_text_133 gf_X10_7 (mid_at (A := ((arrS Z n1 6 (wdA Z) ++ arrS Z n2 6 (wdB Z)) ++ arrS Z n3 5 (wdC Z))) (M := wPl Z L) (B := []) (by simp only [List.append_assoc, List.append_nil, List.nil_append]) (wPl_at hi9)) rfl ?_
      refine J_iconst 3 C iX10_text_136 rfl ?_
      refine J_icmpge 147 C iX10_text_137 rfl (fun h137 => ?_) (fun h137 => absurd (by decide) h137)
      refine J_aload_n C iX10_text_147 rfl rfl ?_
      refine J_get (.int 7) ((((arrS Z n1 6 (wdA Z) ++ arrS Z n2 6 (wdB Z)) ++ arrS Z n3 5 (wdC Z))).length + i) C iX10_text_148 gf_X10_7 (mid_at (A := ((arrS Z n1 6 (wdA Z) ++ arrS Z n2 6 (wdB Z)) ++ arrS Z n3 5 (wdC Z))) (M := wPl Z L) (B := []) (by simp only [List.append_assoc, List.append_nil, List.nil_append]) (wPl_at hi9)) rfl ?_
      refine J_bipush 6 C iX10_text_151 rfl ?_
      refine J_icmpge 188 C iX10_text_153 rfl (fun h153 => ?_) (fun h153 => absurd (by decide) h153)
      refine J_aload_n C iX10_text_188 rfl rfl ?_
      refine J_get (.int 7) ((((arrS Z n1 6 (wdA Z) ++ arrS Z n2 6 (wdB Z)) ++ arrS Z n3 5 (wdC Z))).length + i) C iX10_text_189 gf_X10_7 (mid_at (A := ((arrS Z n1 6 (wdA Z) ++ arrS Z n2 6 (wdB Z)) ++ arrS Z n3 5 (wdC Z))) (M := wPl Z L) (B := []) (by simp only [List.append_assoc, List.append_nil, List.nil_append]) (wPl_at hi9)) rfl ?_
      refine J_bipush 6 C iX10_text_192 rfl ?_
      refine J_icmpne 228 C iX10_text_194 rfl (fun h194 => ?_) (fun h194 => absurd h194 (by decide))
      refine J_aload_n C iX10_text_228 rfl rfl ?_
      refine J_get (.int 7) ((((arrS Z n1 6 (wdA Z) ++ arrS Z n2 6 (wdB Z)) ++ arrS Z n3 5 (wdC Z))).length + i) C iX10_text_229 gf_X10_7 (mid_at (A := ((arrS Z n1 6 (wdA Z) ++ arrS Z n2 6 (wdB Z)) ++ arrS Z n3 5 (wdC Z))) (M := wPl Z L) (B := []) (by simp only [List.append_assoc, List.append_nil, List.nil_append]) (wPl_at hi9)) rfl ?_
      refine J_bipush 11 C iX10_text_232 rfl ?_
      refine J_icmpge 300 C iX10_text_234 rfl (fun h234 => absurd h234 (by decide)) (fun h234 => ?_)
      refine J_room (rc2 := 1 + (16 + 2 * tcN fu)) (rs2 := 4 + (30979 + 2 * tsN fu)) (by omega) (by omega) ?_
      refine J_new (ci := 11) [.null, .int 0, .int 0, .int 0] tyJ4 C iX10_text_237 rfl lay_J4 tyJ4_ok (tsg_in (i := 1410) (by decide +kernel) rfl) (tsg_in (i := 1411) (by decide +kernel) rfl) (tsg_in (i := 45) (by decide +kernel) rfl) df_J4 (fun n9 => ?_)
      refine J_ws ((((arrS Z n1 6 (wdA Z) ++ arrS Z n2 6 (wdB Z)) ++ arrS Z n3 5 (wdC Z)) ++ wPl Z L) ++ wS0 Z n9) rfl ?_
      refine J_perm ((((arrS Z n1 6 (wdA Z) ++ arrS Z n2 6 (wdB Z)) ++ arrS Z n3 5 (wdC Z)) ++ wS0 Z n9) ++ wPl Z L) (sw2 _ _ _) ?_
      refine J_dup C iX10_text_240 rfl ?_
      refine J_room (rc2 := 1 + (15 + 2 * tcN fu)) (rs2 := 16 + (30963 + 2 * tsN fu)) (by omega) (by omega) ?_
      refine J_cIb (As := []) (st := .ref n9 :: []) (rc2 := 15 + 2 * tcN fu) (rs2 := 30963 + 2 * tsN fu) (w0 := (wS0 Z n9)) C iX10_text_241 lm_X10_95 yc_J4_init_da8c8 yi_J4_init_da8c8 c_J4_init_da8c8 ((arrS Z n1 6 (wdA Z) ++ arrS Z n2 6 (wdB Z)) ++ arrS Z n3 5 (wdC Z)) (wPl Z L) (by simp only [List.append_assoc, List.append_nil, List.nil_append]) rfl (rmT_m (by decide) (by decide)) (Nat.le_of_ble_eq_true rfl) rfl rfl ?_
      rintro _ _ ⟨rfl, q1, rfl⟩
      refine J_st (.ref n9 :: []) rfl ?_
      refine J_ws (((((arrS Z n1 6 (wdA Z) ++ arrS Z n2 6 (wdB Z)) ++ arrS Z n3 5 (wdC Z)) ++ wSo Z n9 q1 0) ++ arrB Z q1 16 (fun _ => 0)) ++ wPl Z L) (by simp only [List.append_assoc, List.append_nil, List.nil_append]) ?_
      refine J_ldcS 33 C iX10_text_244 rfl ?_
      refine J_room (rc2 := 1 + (14 + 2 * tcN fu)) (rs2 := 4002 + (26961 + 2 * tsN fu)) (by omega) (by omega) ?_
      refine J_cVb (As := [.ref (zsk Z 33)]) (st := []) (rc2 := 14 + 2 * tcN fu) (rs2 := 26961 + 2 * tsN fu) (w0 := (wSo Z n9 q1 0 ++ arrB Z q1 16 (fun _ => 0))) (q0 := 0) C iX10_text_246 lm_X10_96 yc_J4_append_15ec4 yv_J4_append_15ec4 (c_J4_append_C (T := ([] : List Nat)) (i := 33) sb_new (by decide) (by simp only [List.length_append, List.length_nil] at hl9 ⊢; omega)) rfl rfl rfl ((arrS Z n1 6 (wdA Z) ++ arrS Z n2 6 (wdB Z)) ++ arrS Z n3 5 (wdC Z)) (wPl Z L) (by simp only [List.append_assoc, List.append_nil, List.nil_append]) rfl (rmT_m (by decide) (by decide)) (Nat.le_of_ble_eq_true rfl) rfl rfl ?_
      rintro _ _ ⟨rfl, y2, c2, b2, rfl, h2⟩
      refine J_st (.ref n9 :: []) rfl ?_
      refine J_ws (((((arrS Z n1 6 (wdA Z) ++ arrS Z n2 6 (wdB Z)) ++ arrS Z n3 5 (wdC Z)) ++ wSo Z n9 y2 (nI (([] : List Nat) ++ cTx 33).length)) ++ arrB Z y2 c2 b2) ++ wPl Z L) (by simp only [List.append_assoc, List.append_nil, List.nil_append]) ?_
      refine J_aload_n C iX10_text_249 rfl rfl ?_
      refine J_get (.ref xa) ((((((arrS Z n1 6 (wdA Z) ++ arrS Z n2 6 (wdB Z)) ++ arrS Z n3 5 (wdC Z)) ++ wSo Z n9 y2 (nI (([] : List Nat) ++ cTx 33).length)) ++ arrB Z y2 c2 b2)).length + i) C iX10_text_250 gf_X10_36 (mid_at (A := ((((arrS Z n1 6 (wdA Z) ++ arrS Z n2 6 (wdB Z)) ++ arrS Z n3 5 (wdC Z)) ++ wSo Z n9 y2 (nI (([] : List Nat) ++ cTx 33).length)) ++ arrB Z y2 c2 b2)) (M := wPl Z L) (B := []) (by simp only [List.append_assoc, List.append_nil, List.nil_append]) (wPl_at hi9)) rfl ?_
      refine J_alt (ι := Nat × Nat × (Nat → Int32)) (P := fun i9 => SbT ((([] : List Nat) ++ cTx 33) ++ txN n fu (kdA q)) i9.2.1 i9.2.2) (13 + 1 * tcN fu) (22959 + 1 * tsN fu) 259 (fun _ => [(3, .ref n3), (2, .ref n2), (1, .ref n1), (0, .ref a)]) (fun _ => .ref n9 :: []) (fun i9 => (((((arrS Z n1 6 (wdA Z) ++ arrS Z n2 6 (wdB Z)) ++ arrS Z n3 5 (wdC Z)) ++ wSo Z n9 i9.1 (nI ((([] : List Nat) ++ cTx 33) ++ txN n fu (kdA q)).length)) ++ arrB Z i9.1 i9.2.1 i9.2.2) ++ wPl Z L)) (fun i9 hi9_ => ?_) (fun hk259_3 => ?_)
      · obtain ⟨z3, k3, m3⟩ := i9
        have g3 : SbT ((([] : List Nat) ++ cTx 33) ++ txN n fu (kdA q)) k3 m3 := hi9_
        refine J_ws (((((arrS Z n1 6 (wdA Z) ++ arrS Z n2 6 (wdB Z)) ++ arrS Z n3 5 (wdC Z)) ++ wSo Z n9 z3 (nI ((([] : List Nat) ++ cTx 33) ++ txN n fu (kdA q)).length)) ++ arrB Z z3 k3 m3) ++ wPl Z L) rfl ?_
        refine J_ldcS 32 C iX10_text_259 rfl ?_
        refine J_room (rc2 := 1 + (12 + 1 * tcN fu)) (rs2 := 4002 + (18957 + 1 * tsN fu)) (by omega) (by omega) ?_
        refine J_cVb (As := [.ref (zsk Z 32)]) (st := []) (rc2 := 12 + 1 * tcN fu) (rs2 := 18957 + 1 * tsN fu) (w0 := ((wSo Z n9 z3 (nI ((([] : List Nat) ++ cTx 33) ++ txN n fu (kdA q)).length)) ++ arrB Z z3 k3 m3)) (q0 := 0) C iX10_text_261 lm_X10_96 yc_J4_append_15ec4 yv_J4_append_15ec4 (c_J4_append_C (T := ((([] : List Nat) ++ cTx 33) ++ txN n fu (kdA q))) (i := 32) g3 (by decide) (by simp only [List.length_append, List.length_nil] at hl9 ⊢; omega)) rfl rfl rfl ((arrS Z n1 6 (wdA Z) ++ arrS Z n2 6 (wdB Z)) ++ arrS Z n3 5 (wdC Z)) (wPl Z L) (by simp only [List.append_assoc, List.append_nil, List.nil_append]) rfl (rmT_m (by decide) (by decide)) (Nat.le_of_ble_eq_true rfl) rfl rfl ?_
        rintro _ _ ⟨rfl, y4, c4, b4, rfl, h4⟩
        refine J_st (.ref n9 :: []) rfl ?_
        refine J_ws (((((arrS Z n1 6 (wdA Z) ++ arrS Z n2 6 (wdB Z)) ++ arrS Z n3 5 (wdC Z)) ++ wSo Z n9 y4 (nI (((([] : List Nat) ++ cTx 33) ++ txN n fu (kdA q)) ++ cTx 32).length)) ++ arrB Z y4 c4 b4) ++ wPl Z L) (by simp only [List.append_assoc, List.append_nil, List.nil_append]) ?_
        refine J_aload_n C iX10_text_264 rfl rfl ?_
        refine J_aload_n C iX10_text_265 rfl rfl ?_
        refine J_get (.int 7) ((((((arrS Z n1 6 (wdA Z) ++ arrS Z n2 6 (wdB Z)) ++ arrS Z n3 5 (wdC Z)) ++ wSo Z n9 y4 (nI (((([] : List Nat) ++ cTx 33) ++ txN n fu (kdA q)) ++ cTx 32).length)) ++ arrB Z y4 c4 b4)).length + i) C iX10_text_266 gf_X10_7 (mid_at (A := ((((arrS Z n1 6 (wdA Z) ++ arrS Z n2 6 (wdB Z)) ++ arrS Z n3 5 (wdC Z)) ++ wSo Z n9 y4 (nI (((([] : List Nat) ++ cTx 33) ++ txN n fu (kdA q)) ++ cTx 32).length)) ++ arrB Z y4 c4 b4)) (M := wPl Z L) (B := []) (by simp only [List.append_assoc, List.append_nil, List.nil_append]) (wPl_at hi9)) rfl ?_
        refine J_bipush 7 C iX10_text_269 rfl ?_
        refine J_isub C iX10_text_271 ?_
        rw [show (7 - 7 : Int32) = 0 from rfl]
        refine J_aaldS 1 C iX10_text_272 rfl (vp_in_nI (n := 0) (by decide) (by decide)) ?_
        rw [show Int32.toNatClampNeg 0 = 0 from rfl]
        refine J_st (.ref (zsk Z 19) :: .ref n9 :: []) rfl ?_
        refine J_room (rc2 := 1 + (11 + 1 * tcN fu)) (rs2 := 4002 + (14955 + 1 * tsN fu)) (by omega) (by omega) ?_
        refine J_cVb (As := [.ref (zsk Z 19)]) (st := []) (rc2 := 11 + 1 * tcN fu) (rs2 := 14955 + 1 * tsN fu) (w0 := ((wSo Z n9 y4 (nI (((([] : List Nat) ++ cTx 33) ++ txN n fu (kdA q)) ++ cTx 32).length)) ++ arrB Z y4 c4 b4)) (q0 := 0) C iX10_text_273 lm_X10_96 yc_J4_append_15ec4 yv_J4_append_15ec4 (c_J4_append_C (T := (((([] : List Nat) ++ cTx 33) ++ txN n fu (kdA q)) ++ cTx 32)) (i := 19) h4 (by decide) (by simp only [List.length_append, List.length_nil] at hl9 ⊢; omega)) rfl rfl rfl ((arrS Z n1 6 (wdA Z) ++ arrS Z n2 6 (wdB Z)) ++ arrS Z n3 5 (wdC Z)) (wPl Z L) (by simp only [List.append_assoc, List.append_nil, List.nil_append]) rfl (rmT_m (by decide) (by decide)) (Nat.le_of_ble_eq_true rfl) rfl rfl ?_
        rintro _ _ ⟨rfl, y5, c5, b5, rfl, h5⟩
        refine J_st (.ref n9 :: []) rfl ?_
        refine J_ws (((((arrS Z n1 6 (wdA Z) ++ arrS Z n2 6 (wdB Z)) ++ arrS Z n3 5 (wdC Z)) ++ wSo Z n9 y5 (nI ((((([] : List Nat) ++ cTx 33) ++ txN n fu (kdA q)) ++ cTx 32) ++ cTx 19).length)) ++ arrB Z y5 c5 b5) ++ wPl Z L) (by simp only [List.append_assoc, List.append_nil, List.nil_append]) ?_
        refine J_ldcS 33 C iX10_text_276 rfl ?_
        refine J_room (rc2 := 1 + (10 + 1 * tcN fu)) (rs2 := 4002 + (10953 + 1 * tsN fu)) (by omega) (by omega) ?_
        refine J_cVb (As := [.ref (zsk Z 33)]) (st := []) (rc2 := 10 + 1 * tcN fu) (rs2 := 10953 + 1 * tsN fu) (w0 := ((wSo Z n9 y5 (nI ((((([] : List Nat) ++ cTx 33) ++ txN n fu (kdA q)) ++ cTx 32) ++ cTx 19).length)) ++ arrB Z y5 c5 b5)) (q0 := 0) C iX10_text_278 lm_X10_96 yc_J4_append_15ec4 yv_J4_append_15ec4 (c_J4_append_C (T := ((((([] : List Nat) ++ cTx 33) ++ txN n fu (kdA q)) ++ cTx 32) ++ cTx 19)) (i := 33) h5 (by decide) (by simp only [List.length_append, List.length_nil] at hl9 ⊢; omega)) rfl rfl rfl ((arrS Z n1 6 (wdA Z) ++ arrS Z n2 6 (wdB Z)) ++ arrS Z n3 5 (wdC Z)) (wPl Z L) (by simp only [List.append_assoc, List.append_nil, List.nil_append]) rfl (rmT_m (by decide) (by decide)) (Nat.le_of_ble_eq_true rfl) rfl rfl ?_
        rintro _ _ ⟨rfl, y6, c6, b6, rfl, h6⟩
        refine J_st (.ref n9 :: []) rfl ?_
        refine J_ws (((((arrS Z n1 6 (wdA Z) ++ arrS Z n2 6 (wdB Z)) ++ arrS Z n3 5 (wdC Z)) ++ wSo Z n9 y6 (nI (((((([] : List Nat) ++ cTx 33) ++ txN n fu (kdA q)) ++ cTx 32) ++ cTx 19) ++ cTx 33).length)) ++ arrB Z y6 c6 b6) ++ wPl Z L) (by simp only [List.append_assoc, List.append_nil, List.nil_append]) ?_
        refine J_aload_n C iX10_text_281 rfl rfl ?_
        refine J_get (.ref xb) ((((((arrS Z n1 6 (wdA Z) ++ arrS Z n2 6 (wdB Z)) ++ arrS Z n3 5 (wdC Z)) ++ wSo Z n9 y6 (nI (((((([] : List Nat) ++ cTx 33) ++ txN n fu (kdA q)) ++ cTx 32) ++ cTx 19) ++ cTx 33).length)) ++ arrB Z y6 c6 b6)).length + i) C iX10_text_282 gf_X10_51 (mid_at (A := ((((arrS Z n1 6 (wdA Z) ++ arrS Z n2 6 (wdB Z)) ++ arrS Z n3 5 (wdC Z)) ++ wSo Z n9 y6 (nI (((((([] : List Nat) ++ cTx 33) ++ txN n fu (kdA q)) ++ cTx 32) ++ cTx 19) ++ cTx 33).length)) ++ arrB Z y6 c6 b6)) (M := wPl Z L) (B := []) (by simp only [List.append_assoc, List.append_nil, List.nil_append]) (wPl_at hi9)) rfl ?_
        refine J_alt (ι := Nat × Nat × (Nat → Int32)) (P := fun i9 => SbT ((((((([] : List Nat) ++ cTx 33) ++ txN n fu (kdA q)) ++ cTx 32) ++ cTx 19) ++ cTx 33) ++ txN n fu (kdB q)) i9.2.1 i9.2.2) (9 + 0 * tcN fu) (6951 + 0 * tsN fu) 291 (fun _ => [(3, .ref n3), (2, .ref n2), (1, .ref n1), (0, .ref a)]) (fun _ => .ref n9 :: []) (fun i9 => (((((arrS Z n1 6 (wdA Z) ++ arrS Z n2 6 (wdB Z)) ++ arrS Z n3 5 (wdC Z)) ++ wSo Z n9 i9.1 (nI ((((((([] : List Nat) ++ cTx 33) ++ txN n fu (kdA q)) ++ cTx 32) ++ cTx 19) ++ cTx 33) ++ txN n fu (kdB q)).length)) ++ arrB Z i9.1 i9.2.1 i9.2.2) ++ wPl Z L)) (fun i9 hi9_ => ?_) (fun hk291_7 => ?_)
        · obtain ⟨z7, k7, m7⟩ := i9
          have g7 : SbT ((((((([] : List Nat) ++ cTx 33) ++ txN n fu (kdA q)) ++ cTx 32) ++ cTx 19) ++ cTx 33) ++ txN n fu (kdB q)) k7 m7 := hi9_
          refine J_ws (((((arrS Z n1 6 (wdA Z) ++ arrS Z n2 6 (wdB Z)) ++ arrS Z n3 5 (wdC Z)) ++ wSo Z n9 z7 (nI ((((((([] : List Nat) ++ cTx 33) ++ txN n fu (kdA q)) ++ cTx 32) ++ cTx 19) ++ cTx 33) ++ txN n fu (kdB q)).length)) ++ arrB Z z7 k7 m7) ++ wPl Z L) rfl ?_
          refine J_ldcS 32 C iX10_text_291 rfl ?_
          refine J_room (rc2 := 1 + (8 + 0 * tcN fu)) (rs2 := 4002 + (2949 + 0 * tsN fu)) (by omega) (by omega) ?_
          refine J_cVb (As := [.ref (zsk Z 32)]) (st := []) (rc2 := 8 + 0 * tcN fu) (rs2 := 2949 + 0 * tsN fu) (w0 := ((wSo Z n9 z7 (nI ((((((([] : List Nat) ++ cTx 33) ++ txN n fu (kdA q)) ++ cTx 32) ++ cTx 19) ++ cTx 33) ++ txN n fu (kdB q)).length)) ++ arrB Z z7 k7 m7)) (q0 := 0) C iX10_text_293 lm_X10_96 yc_J4_append_15ec4 yv_J4_append_15ec4 (c_J4_append_C (T := ((((((([] : List Nat) ++ cTx 33) ++ txN n fu (kdA q)) ++ cTx 32) ++ cTx 19) ++ cTx 33) ++ txN n fu (kdB q))) (i := 32) g7 (by decide) (by simp only [List.length_append, List.length_nil] at hl9 ⊢; omega)) rfl rfl rfl ((arrS Z n1 6 (wdA Z) ++ arrS Z n2 6 (wdB Z)) ++ arrS Z n3 5 (wdC Z)) (wPl Z L) (by simp only [List.append_assoc, List.append_nil, List.nil_append]) rfl (rmT_m (by decide) (by decide)) (Nat.le_of_ble_eq_true rfl) rfl rfl ?_
          rintro _ _ ⟨rfl, y8, c8, b8, rfl, h8⟩
          refine J_st (.ref n9 :: []) rfl ?_
          refine J_ws (((((arrS Z n1 6 (wdA Z) ++ arrS Z n2 6 (wdB Z)) ++ arrS Z n3 5 (wdC Z)) ++ wSo Z n9 y8 (nI (((((((([] : List Nat) ++ cTx 33) ++ txN n fu (kdA q)) ++ cTx 32) ++ cTx 19) ++ cTx 33) ++ txN n fu (kdB q)) ++ cTx 32).length)) ++ arrB Z y8 c8 b8) ++ wPl Z L) (by simp only [List.append_assoc, List.append_nil, List.nil_append]) ?_
          refine J_room (rc2 := 2 + (6 + 0 * tcN fu)) (rs2 := 2004 + (945 + 0 * tsN fu)) (by omega) (by omega) ?_
          refine J_cVb (As := []) (st := []) (rc2 := 6 + 0 * tcN fu) (rs2 := 945 + 0 * tsN fu) (w0 := ((wSo Z n9 y8 (nI (((((((([] : List Nat) ++ cTx 33) ++ txN n fu (kdA q)) ++ cTx 32) ++ cTx 19) ++ cTx 33) ++ txN n fu (kdB q)) ++ cTx 32).length)) ++ arrB Z y8 c8 b8)) (q0 := 0) C iX10_text_296 lm_X10_103 yc_J4_toString_0e30d yv_J4_toString_0e30d (c_J4_toString_0e30d (T := (((((((([] : List Nat) ++ cTx 33) ++ txN n fu (kdA q)) ++ cTx 32) ++ cTx 19) ++ cTx 33) ++ txN n fu (kdB q)) ++ cTx 32)) h8 (by simp only [List.length_append, List.length_nil] at hl9 ⊢; omega)) rfl rfl rfl ((arrS Z n1 6 (wdA Z) ++ arrS Z n2 6 (wdB Z)) ++ arrS Z n3 5 (wdC Z)) (wPl Z L) (by simp only [List.append_assoc, List.append_nil, List.nil_append]) rfl (rmT_m (by decide) (by decide)) (Nat.le_of_ble_eq_true rfl) rfl rfl ?_
          rintro _ _ ⟨s9, t9, b9, rfl, rfl, h9⟩
          refine J_st (.ref s9 :: []) rfl ?_
          refine J_ws (((((((arrS Z n1 6 (wdA Z) ++ arrS Z n2 6 (wdB Z)) ++ arrS Z n3 5 (wdC Z)) ++ wTo Z s9 t9) ++ wSo Z n9 y8 (nI (((((((([] : List Nat) ++ cTx 33) ++ txN n fu (kdA q)) ++ cTx 32) ++ cTx 19) ++ cTx 33) ++ txN n fu (kdB q)) ++ cTx 32).length)) ++ arrB Z y8 c8 b8) ++ arrB Z t9 ((((((((([] : List Nat) ++ cTx 33) ++ txN n fu (kdA q)) ++ cTx 32) ++ cTx 19) ++ cTx 33) ++ txN n fu (kdB q)) ++ cTx 32).length) b9) ++ wPl Z L) (by simp only [List.append_assoc, List.append_nil, List.nil_append]) ?_
          refine J_drop [] ((arrS Z n1 6 (wdA Z) ++ arrS Z n2 6 (wdB Z)) ++ arrS Z n3 5 (wdC Z)) ((((wTo Z s9 t9 ++ wSo Z n9 y8 (nI (((((((([] : List Nat) ++ cTx 33) ++ txN n fu (kdA q)) ++ cTx 32) ++ cTx 19) ++ cTx 33) ++ txN n fu (kdB q)) ++ cTx 32).length)) ++ arrB Z y8 c8 b8) ++ arrB Z t9 ((((((((([] : List Nat) ++ cTx 33) ++ txN n fu (kdA q)) ++ cTx 32) ++ cTx 19) ++ cTx 33) ++ txN n fu (kdB q)) ++ cTx 32).length) b9) ++ wPl Z L) (by simp only [List.append_assoc, List.append_nil, List.nil_append]) ?_
          refine J_ws ((((wTo Z s9 t9 ++ wSo Z n9 y8 (nI (((((((([] : List Nat) ++ cTx 33) ++ txN n fu (kdA q)) ++ cTx 32) ++ cTx 19) ++ cTx 33) ++ txN n fu (kdB q)) ++ cTx 32).length)) ++ arrB Z y8 c8 b8) ++ arrB Z t9 ((((((((([] : List Nat) ++ cTx 33) ++ txN n fu (kdA q)) ++ cTx 32) ++ cTx 19) ++ cTx 33) ++ txN n fu (kdB q)) ++ cTx 32).length) b9) ++ wPl Z L) (by simp only [List.append_assoc, List.append_nil, List.nil_append]) ?_
          refine J_drop (wTo Z s9 t9) ((wSo Z n9 y8 (nI (((((((([] : List Nat) ++ cTx 33) ++ txN n fu (kdA q)) ++ cTx 32) ++ cTx 19) ++ cTx 33) ++ txN n fu (kdB q)) ++ cTx 32).length)) ++ arrB Z y8 c8 b8) ((arrB Z t9 ((((((((([] : List Nat) ++ cTx 33) ++ txN n fu (kdA q)) ++ cTx 32) ++ cTx 19) ++ cTx 33) ++ txN n fu (kdB q)) ++ cTx 32).length) b9) ++ wPl Z L) (by simp only [List.append_assoc, List.append_nil, List.nil_append]) ?_
          refine J_ws ((wTo Z s9 t9 ++ arrB Z t9 ((((((((([] : List Nat) ++ cTx 33) ++ txN n fu (kdA q)) ++ cTx 32) ++ cTx 19) ++ cTx 33) ++ txN n fu (kdB q)) ++ cTx 32).length) b9) ++ wPl Z L) (by simp only [List.append_assoc, List.append_nil, List.nil_append]) ?_
          refine J_perm ((wTo Z s9 t9 ++ wPl Z L) ++ arrB Z t9 ((((((((([] : List Nat) ++ cTx 33) ++ txN n fu (kdA q)) ++ cTx 32) ++ cTx 19) ++ cTx 33) ++ txN n fu (kdB q)) ++ cTx 32).length) b9) (sw2 _ _ _) ?_
          refine J_perm ((wPl Z L ++ wTo Z s9 t9) ++ arrB Z t9 ((((((((([] : List Nat) ++ cTx 33) ++ txN n fu (kdA q)) ++ cTx 32) ++ cTx 19) ++ cTx 33) ++ txN n fu (kdB q)) ++ cTx 32).length) b9) (List.perm_append_comm.append_right _) ?_
          exact J_aret C E iX10_text_299 (Or.inl ⟨_, rfl⟩) (Or.inr ⟨s9, _, _, rfl, rfl, h9⟩)
        · refine J_room (rc2 := (tcN fu) + (10 + 0 * tcN fu)) (rs2 := (tsN fu) + (10953 + 0 * tsN fu)) (by omega) (by omega) ?_
          obtain ⟨j1_, e1_, f1_⟩ := InT.at hxb
          refine J_cVb (As := []) (st := .ref n9 :: []) (rc2 := 10 + 0 * tcN fu) (rs2 := 10953 + 0 * tsN fu) (w0 := wPl Z L) (q0 := j1_) C iX10_text_285 lm_X10_111 yc_X10_text yv_X10_text (ih (q := kdB q) hxb (by simp only [List.length_append] at hl9; omega)) rfl rfl (wPl_at f1_) ((((arrS Z n1 6 (wdA Z) ++ arrS Z n2 6 (wdB Z)) ++ arrS Z n3 5 (wdC Z)) ++ wSo Z n9 y6 (nI (((((([] : List Nat) ++ cTx 33) ++ txN n fu (kdA q)) ++ cTx 32) ++ cTx 19) ++ cTx 33).length)) ++ arrB Z y6 c6 b6) [] (by simp only [List.append_assoc, List.append_nil, List.nil_append]) rfl (rmT_le (by omega) (by decide)) (Nat.le_of_ble_eq_true rfl) rfl rfl ?_
          rintro _ _ (⟨j7, hj7, rfl, rfl, e7⟩ | ⟨s7, t7, b7, rfl, rfl, e7⟩)
          · refine J_st (.ref (zsk Z j7) :: .ref n9 :: []) rfl ?_
            refine J_ws (((((arrS Z n1 6 (wdA Z) ++ arrS Z n2 6 (wdB Z)) ++ arrS Z n3 5 (wdC Z)) ++ wSo Z n9 y6 (nI (((((([] : List Nat) ++ cTx 33) ++ txN n fu (kdA q)) ++ cTx 32) ++ cTx 19) ++ cTx 33).length)) ++ arrB Z y6 c6 b6) ++ wPl Z L) (by simp only [List.append_assoc, List.append_nil, List.nil_append]) ?_
            refine J_room (rc2 := 1 + (9 + 0 * tcN fu)) (rs2 := 4002 + (6951 + 0 * tsN fu)) (by omega) (by omega) ?_
            refine J_cVb (As := [.ref (zsk Z j7)]) (st := []) (rc2 := 9 + 0 * tcN fu) (rs2 := 6951 + 0 * tsN fu) (w0 := ((wSo Z n9 y6 (nI (((((([] : List Nat) ++ cTx 33) ++ txN n fu (kdA q)) ++ cTx 32) ++ cTx 19) ++ cTx 33).length)) ++ arrB Z y6 c6 b6)) (q0 := 0) C iX10_text_288 lm_X10_96 yc_J4_append_15ec4 yv_J4_append_15ec4 (c_J4_append_C (T := (((((([] : List Nat) ++ cTx 33) ++ txN n fu (kdA q)) ++ cTx 32) ++ cTx 19) ++ cTx 33)) (i := j7) h6 hj7 (by rw [← e7]; simp only [List.length_append, List.length_nil] at hl9 ⊢; omega)) rfl rfl rfl ((arrS Z n1 6 (wdA Z) ++ arrS Z n2 6 (wdB Z)) ++ arrS Z n3 5 (wdC Z)) (wPl Z L) (by simp only [List.append_assoc, List.append_nil, List.nil_append]) rfl (rmT_m (by decide) (by decide)) (Nat.le_of_ble_eq_true rfl) rfl rfl ?_
            rintro _ _ ⟨rfl, y10, c10, b10, rfl, h10⟩
            refine J_st (.ref n9 :: []) rfl ?_
            refine J_ws (((((arrS Z n1 6 (wdA Z) ++ arrS Z n2 6 (wdB Z)) ++ arrS Z n3 5 (wdC Z)) ++ wSo Z n9 y10 (nI ((((((([] : List Nat) ++ cTx 33) ++ txN n fu (kdA q)) ++ cTx 32) ++ cTx 19) ++ cTx 33) ++ cTx j7).length)) ++ arrB Z y10 c10 b10) ++ wPl Z L) (by simp only [List.append_assoc, List.append_nil, List.nil_append]) ?_
            rw [← e7]
            exact hk291_7 (y10, c10, b10) (by rw [e7]; exact h10)
          · refine J_st (.ref s7 :: .ref n9 :: []) rfl ?_
            refine J_ws (((((((arrS Z n1 6 (wdA Z) ++ arrS Z n2 6 (wdB Z)) ++ arrS Z n3 5 (wdC Z)) ++ wSo Z n9 y6 (nI (((((([] : List Nat) ++ cTx 33) ++ txN n fu (kdA q)) ++ cTx 32) ++ cTx 19) ++ cTx 33).length)) ++ arrB Z y6 c6 b6) ++ wPl Z L) ++ wTo Z s7 t7) ++ arrB Z t7 ((txN n fu (kdB q)).length) b7) (by simp only [List.append_assoc, List.append_nil, List.nil_append]) ?_
            refine J_perm (((((((arrS Z n1 6 (wdA Z) ++ arrS Z n2 6 (wdB Z)) ++ arrS Z n3 5 (wdC Z)) ++ wSo Z n9 y6 (nI (((((([] : List Nat) ++ cTx 33) ++ txN n fu (kdA q)) ++ cTx 32) ++ cTx 19) ++ cTx 33).length)) ++ arrB Z y6 c6 b6) ++ wTo Z s7 t7) ++ wPl Z L) ++ arrB Z t7 ((txN n fu (kdB q)).length) b7) ((sw2 _ _ _).append_right _) ?_
            refine J_perm (((((((arrS Z n1 6 (wdA Z) ++ arrS Z n2 6 (wdB Z)) ++ arrS Z n3 5 (wdC Z)) ++ wSo Z n9 y6 (nI (((((([] : List Nat) ++ cTx 33) ++ txN n fu (kdA q)) ++ cTx 32) ++ cTx 19) ++ cTx 33).length)) ++ arrB Z y6 c6 b6) ++ wTo Z s7 t7) ++ arrB Z t7 ((txN n fu (kdB q)).length) b7) ++ wPl Z L) (sw2 _ _ _) ?_
            refine J_room (rc2 := 1 + (9 + 0 * tcN fu)) (rs2 := 4002 + (6951 + 0 * tsN fu)) (by omega) (by omega) ?_
            refine J_cVb (As := [.ref s7]) (st := []) (rc2 := 9 + 0 * tcN fu) (rs2 := 6951 + 0 * tsN fu) (w0 := ((((wSo Z n9 y6 (nI (((((([] : List Nat) ++ cTx 33) ++ txN n fu (kdA q)) ++ cTx 32) ++ cTx 19) ++ cTx 33).length)) ++ arrB Z y6 c6 b6) ++ wTo Z s7 t7) ++ arrB Z t7 ((txN n fu (kdB q)).length) b7)) (q0 := 0) C iX10_text_288 lm_X10_96 yc_J4_append_15ec4 yv_J4_append_15ec4 (c_J4_append_D (T := (((((([] : List Nat) ++ cTx 33) ++ txN n fu (kdA q)) ++ cTx 32) ++ cTx 19) ++ cTx 33)) (S := txN n fu (kdB q)) h6 e7 (by simp only [List.length_append, List.length_nil] at hl9 ⊢; omega)) rfl rfl rfl ((arrS Z n1 6 (wdA Z) ++ arrS Z n2 6 (wdB Z)) ++ arrS Z n3 5 (wdC Z)) (wPl Z L) (by simp only [List.append_assoc, List.append_nil, List.nil_append]) rfl (rmT_m (by decide) (by decide)) (Nat.le_of_ble_eq_true rfl) rfl rfl ?_
            rintro _ _ ⟨rfl, y11, c11, b11, rfl, h11⟩
            refine J_st (.ref n9 :: []) rfl ?_
            refine J_ws (((((((arrS Z n1 6 (wdA Z) ++ arrS Z n2 6 (wdB Z)) ++ arrS Z n3 5 (wdC Z)) ++ wSo Z n9 y11 (nI ((((((([] : List Nat) ++ cTx 33) ++ txN n fu (kdA q)) ++ cTx 32) ++ cTx 19) ++ cTx 33) ++ txN n fu (kdB q)).length)) ++ arrB Z y11 c11 b11) ++ wTo Z s7 t7) ++ arrB Z t7 ((txN n fu (kdB q)).length) b7) ++ wPl Z L) (by simp only [List.append_assoc, List.append_nil, List.nil_append]) ?_
            refine J_drop ((((arrS Z n1 6 (wdA Z) ++ arrS Z n2 6 (wdB Z)) ++ arrS Z n3 5 (wdC Z)) ++ wSo Z n9 y11 (nI ((((((([] : List Nat) ++ cTx 33) ++ txN n fu (kdA q)) ++ cTx 32) ++ cTx 19) ++ cTx 33) ++ txN n fu (kdB q)).length)) ++ arrB Z y11 c11 b11) (wTo Z s7 t7 ++ arrB Z t7 ((txN n fu (kdB q)).length) b7) (wPl Z L) (by simp only [List.append_assoc, List.append_nil, List.nil_append]) ?_
            refine J_ws (((((arrS Z n1 6 (wdA Z) ++ arrS Z n2 6 (wdB Z)) ++ arrS Z n3 5 (wdC Z)) ++ wSo Z n9 y11 (nI ((((((([] : List Nat) ++ cTx 33) ++ txN n fu (kdA q)) ++ cTx 32) ++ cTx 19) ++ cTx 33) ++ txN n fu (kdB q)).length)) ++ arrB Z y11 c11 b11) ++ wPl Z L) (by simp only [List.append_assoc, List.append_nil, List.nil_append]) ?_
            exact hk291_7 (y11, c11, b11) h11
      · refine J_room (rc2 := (tcN fu) + (14 + 1 * tcN fu)) (rs2 := (tsN fu) + (26961 + 1 * tsN fu)) (by omega) (by omega) ?_
        obtain ⟨j2_, e2_, f2_⟩ := InT.at hxa
        refine J_cVb (As := []) (st := .ref n9 :: []) (rc2 := 14 + 1 * tcN fu) (rs2 := 26961 + 1 * tsN fu) (w0 := wPl Z L) (q0 := j2_) C iX10_text_253 lm_X10_111 yc_X10_text yv_X10_text (ih (q := kdA q) hxa (by simp only [List.length_append] at hl9; omega)) rfl rfl (wPl_at f2_) ((((arrS Z n1 6 (wdA Z) ++ arrS Z n2 6 (wdB Z)) ++ arrS Z n3 5 (wdC Z)) ++ wSo Z n9 y2 (nI (([] : List Nat) ++ cTx 33).length)) ++ arrB Z y2 c2 b2) [] (by simp only [List.append_assoc, List.append_nil, List.nil_append]) rfl (rmT_le (by omega) (by decide)) (Nat.le_of_ble_eq_true rfl) rfl rfl ?_
        rintro _ _ (⟨j3, hj3, rfl, rfl, e3⟩ | ⟨s3, t3, b3, rfl, rfl, e3⟩)
        · refine J_st (.ref (zsk Z j3) :: .ref n9 :: []) rfl ?_
          refine J_ws (((((arrS Z n1 6 (wdA Z) ++ arrS Z n2 6 (wdB Z)) ++ arrS Z n3 5 (wdC Z)) ++ wSo Z n9 y2 (nI (([] : List Nat) ++ cTx 33).length)) ++ arrB Z y2 c2 b2) ++ wPl Z L) (by simp only [List.append_assoc, List.append_nil, List.nil_append]) ?_
          refine J_room (rc2 := 1 + (13 + 1 * tcN fu)) (rs2 := 4002 + (22959 + 1 * tsN fu)) (by omega) (by omega) ?_
          refine J_cVb (As := [.ref (zsk Z j3)]) (st := []) (rc2 := 13 + 1 * tcN fu) (rs2 := 22959 + 1 * tsN fu) (w0 := ((wSo Z n9 y2 (nI (([] : List Nat) ++ cTx 33).length)) ++ arrB Z y2 c2 b2)) (q0 := 0) C iX10_text_256 lm_X10_96 yc_J4_append_15ec4 yv_J4_append_15ec4 (c_J4_append_C (T := (([] : List Nat) ++ cTx 33)) (i := j3) h2 hj3 (by rw [← e3]; simp only [List.length_append, List.length_nil] at hl9 ⊢; omega)) rfl rfl rfl ((arrS Z n1 6 (wdA Z) ++ arrS Z n2 6 (wdB Z)) ++ arrS Z n3 5 (wdC Z)) (wPl Z L) (by simp only [List.append_assoc, List.append_nil, List.nil_append]) rfl (rmT_m (by decide) (by decide)) (Nat.le_of_ble_eq_true rfl) rfl rfl ?_
          rintro _ _ ⟨rfl, y12, c12, b12, rfl, h12⟩
          refine J_st (.ref n9 :: []) rfl ?_
          refine J_ws (((((arrS Z n1 6 (wdA Z) ++ arrS Z n2 6 (wdB Z)) ++ arrS Z n3 5 (wdC Z)) ++ wSo Z n9 y12 (nI ((([] : List Nat) ++ cTx 33) ++ cTx j3).length)) ++ arrB Z y12 c12 b12) ++ wPl Z L) (by simp only [List.append_assoc, List.append_nil, List.nil_append]) ?_
          rw [← e3]
          exact hk259_3 (y12, c12, b12) (by rw [e3]; exact h12)
        · refine J_st (.ref s3 :: .ref n9 :: []) rfl ?_
          refine J_ws (((((((arrS Z n1 6 (wdA Z) ++ arrS Z n2 6 (wdB Z)) ++ arrS Z n3 5 (wdC Z)) ++ wSo Z n9 y2 (nI (([] : List Nat) ++ cTx 33).length)) ++ arrB Z y2 c2 b2) ++ wPl Z L) ++ wTo Z s3 t3) ++ arrB Z t3 ((txN n fu (kdA q)).length) b3) (by simp only [List.append_assoc, List.append_nil, List.nil_append]) ?_
          refine J_perm (((((((arrS Z n1 6 (wdA Z) ++ arrS Z n2 6 (wdB Z)) ++ arrS Z n3 5 (wdC Z)) ++ wSo Z n9 y2 (nI (([] : List Nat) ++ cTx 33).length)) ++ arrB Z y2 c2 b2) ++ wTo Z s3 t3) ++ wPl Z L) ++ arrB Z t3 ((txN n fu (kdA q)).length) b3) ((sw2 _ _ _).append_right _) ?_
          refine J_perm (((((((arrS Z n1 6 (wdA Z) ++ arrS Z n2 6 (wdB Z)) ++ arrS Z n3 5 (wdC Z)) ++ wSo Z n9 y2 (nI (([] : List Nat) ++ cTx 33).length)) ++ arrB Z y2 c2 b2) ++ wTo Z s3 t3) ++ arrB Z t3 ((txN n fu (kdA q)).length) b3) ++ wPl Z L) (sw2 _ _ _) ?_
          refine J_room (rc2 := 1 + (13 + 1 * tcN fu)) (rs2 := 4002 + (22959 + 1 * tsN fu)) (by omega) (by omega) ?_
          refine J_cVb (As := [.ref s3]) (st := []) (rc2 := 13 + 1 * tcN fu) (rs2 := 22959 + 1 * tsN fu) (w0 := ((((wSo Z n9 y2 (nI (([] : List Nat) ++ cTx 33).length)) ++ arrB Z y2 c2 b2) ++ wTo Z s3 t3) ++ arrB Z t3 ((txN n fu (kdA q)).length) b3)) (q0 := 0) C iX10_text_256 lm_X10_96 yc_J4_append_15ec4 yv_J4_append_15ec4 (c_J4_append_D (T := (([] : List Nat) ++ cTx 33)) (S := txN n fu (kdA q)) h2 e3 (by simp only [List.length_append, List.length_nil] at hl9 ⊢; omega)) rfl rfl rfl ((arrS Z n1 6 (wdA Z) ++ arrS Z n2 6 (wdB Z)) ++ arrS Z n3 5 (wdC Z)) (wPl Z L) (by simp only [List.append_assoc, List.append_nil, List.nil_append]) rfl (rmT_m (by decide) (by decide)) (Nat.le_of_ble_eq_true rfl) rfl rfl ?_
          rintro _ _ ⟨rfl, y13, c13, b13, rfl, h13⟩
          refine J_st (.ref n9 :: []) rfl ?_
          refine J_ws (((((((arrS Z n1 6 (wdA Z) ++ arrS Z n2 6 (wdB Z)) ++ arrS Z n3 5 (wdC Z)) ++ wSo Z n9 y13 (nI ((([] : List Nat) ++ cTx 33) ++ txN n fu (kdA q)).length)) ++ arrB Z y13 c13 b13) ++ wTo Z s3 t3) ++ arrB Z t3 ((txN n fu (kdA q)).length) b3) ++ wPl Z L) (by simp only [List.append_assoc, List.append_nil, List.nil_append]) ?_
          refine J_drop ((((arrS Z n1 6 (wdA Z) ++ arrS Z n2 6 (wdB Z)) ++ arrS Z n3 5 (wdC Z)) ++ wSo Z n9 y13 (nI ((([] : List Nat) ++ cTx 33) ++ txN n fu (kdA q)).length)) ++ arrB Z y13 c13 b13) (wTo Z s3 t3 ++ arrB Z t3 ((txN n fu (kdA q)).length) b3) (wPl Z L) (by simp only [List.append_assoc, List.append_nil, List.nil_append]) ?_
          refine J_ws (((((arrS Z n1 6 (wdA Z) ++ arrS Z n2 6 (wdB Z)) ++ arrS Z n3 5 (wdC Z)) ++ wSo Z n9 y13 (nI ((([] : List Nat) ++ cTx 33) ++ txN n fu (kdA q)).length)) ++ arrB Z y13 c13 b13) ++ wPl Z L) (by simp only [List.append_assoc, List.append_nil, List.nil_append]) ?_
          exact hk259_3 (y13, c13, b13) h13
    · rw [hk] at hi9 hbA hbB
      obtain ⟨xa, rfl, hxa⟩ := hbA rfl
      obtain ⟨xb, rfl, hxb⟩ := hbB rfl
      have htx : txN n (fu + 1) q = (((((((([] : List Nat) ++ cTx 33) ++ (txN n fu (kdA q))) ++ cTx 32) ++ cTx 20) ++ cTx 33) ++ (txN n fu (kdB q))) ++ cTx 32) := by rw [txN, tx1, if_neg (by omega), if_neg (by omega), if_neg (by omega), if_neg (by omega), if_neg (by omega), if_neg (by omega), if_neg (by omega), if_neg (by omega), if_pos hk]
      rw [htx] at hl9 ⊢
      refine J_aload_n C iX10_text_102 rfl rfl ?_
      refine J_get (.int 8) ((((arrS Z n1 6 (wdA Z) ++ arrS Z n2 6 (wdB Z)) ++ arrS Z n3 5 (wdC Z))).length + i) C iX10_text_103 gf_X10_7 (mid_at (A := ((arrS Z n1 6 (wdA Z) ++ arrS Z n2 6 (wdB Z)) ++ arrS Z n3 5 (wdC Z))) (M := wPl Z L) (B := []) (by simp only [List.append_assoc, List.append_nil, List.nil_append]) (wPl_at hi9)) rfl ?_
      refine J_ifne 132 C iX10_text_106 rfl (fun h106 => ?_) (fun h106 => absurd h106 (by decide))
      refine J_aload_n C iX10_text_132 rfl rfl ?_
      refine J_get (.int 8) ((((arrS Z n1 6 (wdA Z) ++ arrS Z n2 6 (wdB Z)) ++ arrS Z n3 5 (wdC Z))).length + i) C iX10_text_133 gf_X10_7 (mid_at (A := ((arrS Z n1 6 (wdA Z) ++ arrS Z n2 6 (wdB Z)) ++ arrS Z n3 5 (wdC Z))) (M := wPl Z L) (B := []) (by simp only [List.append_assoc, List.append_nil, List.nil_append]) (wPl_at hi9)) rfl ?_
      refine J_iconst 3 C iX10_text_136 rfl ?_
      refine J_icmpge 147 C iX10_text_137 rfl (fun h137 => ?_) (fun h137 => absurd (by decide) h137)
      refine J_aload_n C iX10_text_147 rfl rfl ?_
      refine J_get (.int 8) ((((arrS Z n1 6 (wdA Z) ++ arrS Z n2 6 (wdB Z)) ++ arrS Z n3 5 (wdC Z))).length + i) C iX10_text_148 gf_X10_7 (mid_at (A := ((arrS Z n1 6 (wdA Z) ++ arrS Z n2 6 (wdB Z)) ++ arrS Z n3 5 (wdC Z))) (M := wPl Z L) (B := []) (by simp only [List.append_assoc, List.append_nil, List.nil_append]) (wPl_at hi9)) rfl ?_
      refine J_bipush 6 C iX10_text_151 rfl ?_
      refine J_icmpge 188 C iX10_text_153 rfl (fun h153 => ?_) (fun h153 => absurd (by decide) h153)
      refine J_aload_n C iX10_text_188 rfl rfl ?_
      refine J_get (.int 8) ((((arrS Z n1 6 (wdA Z) ++ arrS Z n2 6 (wdB Z)) ++ arrS Z n3 5 (wdC Z))).length + i) C iX10_text_189 gf_X10_7 (mid_at (A := ((arrS Z n1 6 (wdA Z) ++ arrS Z n2 6 (wdB Z)) ++ arrS Z n3 5 (wdC Z))) (M := wPl Z L) (B := []) (by simp only [List.append_assoc, List.append_nil, List.nil_append]) (wPl_at hi9)) rfl ?_
      refine J_bipush 6 C iX10_text_192 rfl ?_
      refine J_icmpne 228 C iX10_text_194 rfl (fun h194 => ?_) (fun h194 => absurd h194 (by decide))
      refine J_aload_n C iX10_text_228 rfl rfl ?_
      refine J_get (.int 8) ((((arrS Z n1 6 (wdA Z) ++ arrS Z n2 6 (wdB Z)) ++ arrS Z n3 5 (wdC Z))).length + i) C iX10_text_229 gf_X10_7 (mid_at (A := ((arrS Z n1 6 (wdA Z) ++ arrS Z n2 6 (wdB Z)) ++ arrS Z n3 5 (wdC Z))) (M := wPl Z L) (B := []) (by simp only [List.append_assoc, List.append_nil, List.nil_append]) (wPl_at hi9)) rfl ?_
      refine J_bipush 11 C iX10_text_232 rfl ?_
      refine J_icmpge 300 C iX10_text_234 rfl (fun h234 => absurd h234 (by decide)) (fun h234 => ?_)
      refine J_room (rc2 := 1 + (16 + 2 * tcN fu)) (rs2 := 4 + (30979 + 2 * tsN fu)) (by omega) (by omega) ?_
      refine J_new (ci := 11) [.null, .int 0, .int 0, .int 0] tyJ4 C iX10_text_237 rfl lay_J4 tyJ4_ok (tsg_in (i := 1410) (by decide +kernel) rfl) (tsg_in (i := 1411) (by decide +kernel) rfl) (tsg_in (i := 45) (by decide +kernel) rfl) df_J4 (fun n10 => ?_)
      refine J_ws ((((arrS Z n1 6 (wdA Z) ++ arrS Z n2 6 (wdB Z)) ++ arrS Z n3 5 (wdC Z)) ++ wPl Z L) ++ wS0 Z n10) rfl ?_
      refine J_perm ((((arrS Z n1 6 (wdA Z) ++ arrS Z n2 6 (wdB Z)) ++ arrS Z n3 5 (wdC Z)) ++ wS0 Z n10) ++ wPl Z L) (sw2 _ _ _) ?_
      refine J_dup C iX10_text_240 rfl ?_
      refine J_room (rc2 := 1 + (15 + 2 * tcN fu)) (rs2 := 16 + (30963 + 2 * tsN fu)) (by omega) (by omega) ?_
      refine J_cIb (As := []) (st := .ref n10 :: []) (rc2 := 15 + 2 * tcN fu) (rs2 := 30963 + 2 * tsN fu) (w0 := (wS0 Z n10)) C iX10_text_241 lm_X10_95 yc_J4_init_da8c8 yi_J4_init_da8c8 c_J4_init_da8c8 ((arrS Z n1 6 (wdA Z) ++ arrS Z n2 6 (wdB Z)) ++ arrS Z n3 5 (wdC Z)) (wPl Z L) (by simp only [List.append_assoc, List.append_nil, List.nil_append]) rfl (rmT_m (by decide) (by decide)) (Nat.le_of_ble_eq_true rfl) rfl rfl ?_
      rintro _ _ ⟨rfl, q1, rfl⟩
      refine J_st (.ref n10 :: []) rfl ?_
      refine J_ws (((((arrS Z n1 6 (wdA Z) ++ arrS Z n2 6 (wdB Z)) ++ arrS Z n3 5 (wdC Z)) ++ wSo Z n10 q1 0) ++ arrB Z q1 16 (fun _ => 0)) ++ wPl Z L) (by simp only [List.append_assoc, List.append_nil, List.nil_append]) ?_
      refine J_ldcS 33 C iX10_text_244 rfl ?_
      refine J_room (rc2 := 1 + (14 + 2 * tcN fu)) (rs2 := 4002 + (26961 + 2 * tsN fu)) (by omega) (by omega) ?_
      refine J_cVb (As := [.ref (zsk Z 33)]) (st := []) (rc2 := 14 + 2 * tcN fu) (rs2 := 26961 + 2 * tsN fu) (w0 := (wSo Z n10 q1 0 ++ arrB Z q1 16 (fun _ => 0))) (q0 := 0) C iX10_text_246 lm_X10_96 yc_J4_append_15ec4 yv_J4_append_15ec4 (c_J4_append_C (T := ([] : List Nat)) (i := 33) sb_new (by decide) (by simp only [List.length_append, List.length_nil] at hl9 ⊢; omega)) rfl rfl rfl ((arrS Z n1 6 (wdA Z) ++ arrS Z n2 6 (wdB Z)) ++ arrS Z n3 5 (wdC Z)) (wPl Z L) (by simp only [List.append_assoc, List.append_nil, List.nil_append]) rfl (rmT_m (by decide) (by decide)) (Nat.le_of_ble_eq_true rfl) rfl rfl ?_
      rintro _ _ ⟨rfl, y2, c2, b2, rfl, h2⟩
      refine J_st (.ref n10 :: []) rfl ?_
      refine J_ws (((((arrS Z n1 6 (wdA Z) ++ arrS Z n2 6 (wdB Z)) ++ arrS Z n3 5 (wdC Z)) ++ wSo Z n10 y2 (nI (([] : List Nat) ++ cTx 33).length)) ++ arrB Z y2 c2 b2) ++ wPl Z L) (by simp only [List.append_assoc, List.append_nil, List.nil_append]) ?_
      refine J_aload_n C iX10_text_249 rfl rfl ?_
      refine J_get (.ref xa) ((((((arrS Z n1 6 (wdA Z) ++ arrS Z n2 6 (wdB Z)) ++ arrS Z n3 5 (wdC Z)) ++ wSo Z n10 y2 (nI (([] : List Nat) ++ cTx 33).length)) ++ arrB Z y2 c2 b2)).length + i) C iX10_text_250 gf_X10_36 (mid_at (A := ((((arrS Z n1 6 (wdA Z) ++ arrS Z n2 6 (wdB Z)) ++ arrS Z n3 5 (wdC Z)) ++ wSo Z n10 y2 (nI (([] : List Nat) ++ cTx 33).length)) ++ arrB Z y2 c2 b2)) (M := wPl Z L) (B := []) (by simp only [List.append_assoc, List.append_nil, List.nil_append]) (wPl_at hi9)) rfl ?_
      refine J_alt (ι := Nat × Nat × (Nat → Int32)) (P := fun i9 => SbT ((([] : List Nat) ++ cTx 33) ++ txN n fu (kdA q)) i9.2.1 i9.2.2) (13 + 1 * tcN fu) (22959 + 1 * tsN fu) 259 (fun _ => [(3, .ref n3), (2, .ref n2), (1, .ref n1), (0, .ref a)]) (fun _ => .ref n10 :: []) (fun i9 => (((((arrS Z n1 6 (wdA Z) ++ arrS Z n2 6 (wdB Z)) ++ arrS Z n3 5 (wdC Z)) ++ wSo Z n10 i9.1 (nI ((([] : List Nat) ++ cTx 33) ++ txN n fu (kdA q)).length)) ++ arrB Z i9.1 i9.2.1 i9.2.2) ++ wPl Z L)) (fun i9 hi9_ => ?_) (fun hk259_3 => ?_)
      · obtain ⟨z3, k3, m3⟩ := i9
        have g3 : SbT ((([] : List Nat) ++ cTx 33) ++ txN n fu (kdA q)) k3 m3 := hi9_
        refine J_ws (((((arrS Z n1 6 (wdA Z) ++ arrS Z n2 6 (wdB Z)) ++ arrS Z n3 5 (wdC Z)) ++ wSo Z n10 z3 (nI ((([] : List Nat) ++ cTx 33) ++ txN n fu (kdA q)).length)) ++ arrB Z z3 k3 m3) ++ wPl Z L) rfl ?_
        refine J_ldcS 32 C iX10_text_259 rfl ?_
        refine J_room (rc2 := 1 + (12 + 1 * tcN fu)) (rs2 := 4002 + (18957 + 1 * tsN fu)) (by omega) (by omega) ?_
        refine J_cVb (As := [.ref (zsk Z 32)]) (st := []) (rc2 := 12 + 1 * tcN fu) (rs2 := 18957 + 1 * tsN fu) (w0 := ((wSo Z n10 z3 (nI ((([] : List Nat) ++ cTx 33) ++ txN n fu (kdA q)).length)) ++ arrB Z z3 k3 m3)) (q0 := 0) C iX10_text_261 lm_X10_96 yc_J4_append_15ec4 yv_J4_append_15ec4 (c_J4_append_C (T := ((([] : List Nat) ++ cTx 33) ++ txN n fu (kdA q))) (i := 32) g3 (by decide) (by simp only [List.length_append, List.length_nil] at hl9 ⊢; omega)) rfl rfl rfl ((arrS Z n1 6 (wdA Z) ++ arrS Z n2 6 (wdB Z)) ++ arrS Z n3 5 (wdC Z)) (wPl Z L) (by simp only [List.append_assoc, List.append_nil, List.nil_append]) rfl (rmT_m (by decide) (by decide)) (Nat.le_of_ble_eq_true rfl) rfl rfl ?_
        rintro _ _ ⟨rfl, y4, c4, b4, rfl, h4⟩
        refine J_st (.ref n10 :: []) rfl ?_
        refine J_ws (((((arrS Z n1 6 (wdA Z) ++ arrS Z n2 6 (wdB Z)) ++ arrS Z n3 5 (wdC Z)) ++ wSo Z n10 y4 (nI (((([] : List Nat) ++ cTx 33) ++ txN n fu (kdA q)) ++ cTx 32).length)) ++ arrB Z y4 c4 b4) ++ wPl Z L) (by simp only [List.append_assoc, List.append_nil, List.nil_append]) ?_
        refine J_aload_n C iX10_text_264 rfl rfl ?_
        refine J_aload_n C iX10_text_265 rfl rfl ?_
        refine J_get (.int 8) ((((((arrS Z n1 6 (wdA Z) ++ arrS Z n2 6 (wdB Z)) ++ arrS Z n3 5 (wdC Z)) ++ wSo Z n10 y4 (nI (((([] : List Nat) ++ cTx 33) ++ txN n fu (kdA q)) ++ cTx 32).length)) ++ arrB Z y4 c4 b4)).length + i) C iX10_text_266 gf_X10_7 (mid_at (A := ((((arrS Z n1 6 (wdA Z) ++ arrS Z n2 6 (wdB Z)) ++ arrS Z n3 5 (wdC Z)) ++ wSo Z n10 y4 (nI (((([] : List Nat) ++ cTx 33) ++ txN n fu (kdA q)) ++ cTx 32).length)) ++ arrB Z y4 c4 b4)) (M := wPl Z L) (B := []) (by simp only [List.append_assoc, List.append_nil, List.nil_append]) (wPl_at hi9)) rfl ?_
        refine J_bipush 7 C iX10_text_269 rfl ?_
        refine J_isub C iX10_text_271 ?_
        rw [show (8 - 7 : Int32) = 1 from rfl]
        refine J_aaldS 1 C iX10_text_272 rfl (vp_in_nI (n := 1) (by decide) (by decide)) ?_
        rw [show Int32.toNatClampNeg 1 = 1 from rfl]
        refine J_st (.ref (zsk Z 20) :: .ref n10 :: []) rfl ?_
        refine J_room (rc2 := 1 + (11 + 1 * tcN fu)) (rs2 := 4002 + (14955 + 1 * tsN fu)) (by omega) (by omega) ?_
        refine J_cVb (As := [.ref (zsk Z 20)]) (st := []) (rc2 := 11 + 1 * tcN fu) (rs2 := 14955 + 1 * tsN fu) (w0 := ((wSo Z n10 y4 (nI (((([] : List Nat) ++ cTx 33) ++ txN n fu (kdA q)) ++ cTx 32).length)) ++ arrB Z y4 c4 b4)) (q0 := 0) C iX10_text_273 lm_X10_96 yc_J4_append_15ec4 yv_J4_append_15ec4 (c_J4_append_C (T := (((([] : List Nat) ++ cTx 33) ++ txN n fu (kdA q)) ++ cTx 32)) (i := 20) h4 (by decide) (by simp only [List.length_append, List.length_nil] at hl9 ⊢; omega)) rfl rfl rfl ((arrS Z n1 6 (wdA Z) ++ arrS Z n2 6 (wdB Z)) ++ arrS Z n3 5 (wdC Z)) (wPl Z L) (by simp only [List.append_assoc, List.append_nil, List.nil_append]) rfl (rmT_m (by decide) (by decide)) (Nat.le_of_ble_eq_true rfl) rfl rfl ?_
        rintro _ _ ⟨rfl, y5, c5, b5, rfl, h5⟩
        refine J_st (.ref n10 :: []) rfl ?_
        refine J_ws (((((arrS Z n1 6 (wdA Z) ++ arrS Z n2 6 (wdB Z)) ++ arrS Z n3 5 (wdC Z)) ++ wSo Z n10 y5 (nI ((((([] : List Nat) ++ cTx 33) ++ txN n fu (kdA q)) ++ cTx 32) ++ cTx 20).length)) ++ arrB Z y5 c5 b5) ++ wPl Z L) (by simp only [List.append_assoc, List.append_nil, List.nil_append]) ?_
        refine J_ldcS 33 C iX10_text_276 rfl ?_
        refine J_room (rc2 := 1 + (10 + 1 * tcN fu)) (rs2 := 4002 + (10953 + 1 * tsN fu)) (by omega) (by omega) ?_
        refine J_cVb (As := [.ref (zsk Z 33)]) (st := []) (rc2 := 10 + 1 * tcN fu) (rs2 := 10953 + 1 * tsN fu) (w0 := ((wSo Z n10 y5 (nI ((((([] : List Nat) ++ cTx 33) ++ txN n fu (kdA q)) ++ cTx 32) ++ cTx 20).length)) ++ arrB Z y5 c5 b5)) (q0 := 0) C iX10_text_278 lm_X10_96 yc_J4_append_15ec4 yv_J4_append_15ec4 (c_J4_append_C (T := ((((([] : List Nat) ++ cTx 33) ++ txN n fu (kdA q)) ++ cTx 32) ++ cTx 20)) (i := 33) h5 (by decide) (by simp only [List.length_append, List.length_nil] at hl9 ⊢; omega)) rfl rfl rfl ((arrS Z n1 6 (wdA Z) ++ arrS Z n2 6 (wdB Z)) ++ arrS Z n3 5 (wdC Z)) (wPl Z L) (by simp only [List.append_assoc, List.append_nil, List.nil_append]) rfl (rmT_m (by decide) (by decide)) (Nat.le_of_ble_eq_true rfl) rfl rfl ?_
        rintro _ _ ⟨rfl, y6, c6, b6, rfl, h6⟩
        refine J_st (.ref n10 :: []) rfl ?_
        refine J_ws (((((arrS Z n1 6 (wdA Z) ++ arrS Z n2 6 (wdB Z)) ++ arrS Z n3 5 (wdC Z)) ++ wSo Z n10 y6 (nI (((((([] : List Nat) ++ cTx 33) ++ txN n fu (kdA q)) ++ cTx 32) ++ cTx 20) ++ cTx 33).length)) ++ arrB Z y6 c6 b6) ++ wPl Z L) (by simp only [List.append_assoc, List.append_nil, List.nil_append]) ?_
        refine J_aload_n C iX10_text_281 rfl rfl ?_
        refine J_get (.ref xb) ((((((arrS Z n1 6 (wdA Z) ++ arrS Z n2 6 (wdB Z)) ++ arrS Z n3 5 (wdC Z)) ++ wSo Z n10 y6 (nI (((((([] : List Nat) ++ cTx 33) ++ txN n fu (kdA q)) ++ cTx 32) ++ cTx 20) ++ cTx 33).length)) ++ arrB Z y6 c6 b6)).length + i) C iX10_text_282 gf_X10_51 (mid_at (A := ((((arrS Z n1 6 (wdA Z) ++ arrS Z n2 6 (wdB Z)) ++ arrS Z n3 5 (wdC Z)) ++ wSo Z n10 y6 (nI (((((([] : List Nat) ++ cTx 33) ++ txN n fu (kdA q)) ++ cTx 32) ++ cTx 20) ++ cTx 33).length)) ++ arrB Z y6 c6 b6)) (M := wPl Z L) (B := []) (by simp only [List.append_assoc, List.append_nil, List.nil_append]) (wPl_at hi9)) rfl ?_
        refine J_alt (ι := Nat × Nat × (Nat → Int32)) (P := fun i9 => SbT ((((((([] : List Nat) ++ cTx 33) ++ txN n fu (kdA q)) ++ cTx 32) ++ cTx 20) ++ cTx 33) ++ txN n fu (kdB q)) i9.2.1 i9.2.2) (9 + 0 * tcN fu) (6951 + 0 * tsN fu) 291 (fun _ => [(3, .ref n3), (2, .ref n2), (1, .ref n1), (0, .ref a)]) (fun _ => .ref n10 :: []) (fun i9 => (((((arrS Z n1 6 (wdA Z) ++ arrS Z n2 6 (wdB Z)) ++ arrS Z n3 5 (wdC Z)) ++ wSo Z n10 i9.1 (nI ((((((([] : List Nat) ++ cTx 33) ++ txN n fu (kdA q)) ++ cTx 32) ++ cTx 20) ++ cTx 33) ++ txN n fu (kdB q)).length)) ++ arrB Z i9.1 i9.2.1 i9.2.2) ++ wPl Z L)) (fun i9 hi9_ => ?_) (fun hk291_7 => ?_)
        · obtain ⟨z7, k7, m7⟩ := i9
          have g7 : SbT ((((((([] : List Nat) ++ cTx 33) ++ txN n fu (kdA q)) ++ cTx 32) ++ cTx 20) ++ cTx 33) ++ txN n fu (kdB q)) k7 m7 := hi9_
          refine J_ws (((((arrS Z n1 6 (wdA Z) ++ arrS Z n2 6 (wdB Z)) ++ arrS Z n3 5 (wdC Z)) ++ wSo Z n10 z7 (nI ((((((([] : List Nat) ++ cTx 33) ++ txN n fu (kdA q)) ++ cTx 32) ++ cTx 20) ++ cTx 33) ++ txN n fu (kdB q)).length)) ++ arrB Z z7 k7 m7) ++ wPl Z L) rfl ?_
          refine J_ldcS 32 C iX10_text_291 rfl ?_
          refine J_room (rc2 := 1 + (8 + 0 * tcN fu)) (rs2 := 4002 + (2949 + 0 * tsN fu)) (by omega) (by omega) ?_
          refine J_cVb (As := [.ref (zsk Z 32)]) (st := []) (rc2 := 8 + 0 * tcN fu) (rs2 := 2949 + 0 * tsN fu) (w0 := ((wSo Z n10 z7 (nI ((((((([] : List Nat) ++ cTx 33) ++ txN n fu (kdA q)) ++ cTx 32) ++ cTx 20) ++ cTx 33) ++ txN n fu (kdB q)).length)) ++ arrB Z z7 k7 m7)) (q0 := 0) C iX10_text_293 lm_X10_96 yc_J4_append_15ec4 yv_J4_append_15ec4 (c_J4_append_C (T := ((((((([] : List Nat) ++ cTx 33) ++ txN n fu (kdA q)) ++ cTx 32) ++ cTx 20) ++ cTx 33) ++ txN n fu (kdB q))) (i := 32) g7 (by decide) (by simp only [List.length_append, List.length_nil] at hl9 ⊢; omega)) rfl rfl rfl ((arrS Z n1 6 (wdA Z) ++ arrS Z n2 6 (wdB Z)) ++ arrS Z n3 5 (wdC Z)) (wPl Z L) (by simp only [List.append_assoc, List.append_nil, List.nil_append]) rfl (rmT_m (by decide) (by decide)) (Nat.le_of_ble_eq_true rfl) rfl rfl ?_
          rintro _ _ ⟨rfl, y8, c8, b8, rfl, h8⟩
          refine J_st (.ref n10 :: []) rfl ?_
          refine J_ws (((((arrS Z n1 6 (wdA Z) ++ arrS Z n2 6 (wdB Z)) ++ arrS Z n3 5 (wdC Z)) ++ wSo Z n10 y8 (nI (((((((([] : List Nat) ++ cTx 33) ++ txN n fu (kdA q)) ++ cTx 32) ++ cTx 20) ++ cTx 33) ++ txN n fu (kdB q)) ++ cTx 32).length)) ++ arrB Z y8 c8 b8) ++ wPl Z L) (by simp only [List.append_assoc, List.append_nil, List.nil_append]) ?_
          refine J_room (rc2 := 2 + (6 + 0 * tcN fu)) (rs2 := 2004 + (945 + 0 * tsN fu)) (by omega) (by omega) ?_
          refine J_cVb (As := []) (st := []) (rc2 := 6 + 0 * tcN fu) (rs2 := 945 + 0 * tsN fu) (w0 := ((wSo Z n10 y8 (nI (((((((([] : List Nat) ++ cTx 33) ++ txN n fu (kdA q)) ++ cTx 32) ++ cTx 20) ++ cTx 33) ++ txN n fu (kdB q)) ++ cTx 32).length)) ++ arrB Z y8 c8 b8)) (q0 := 0) C iX10_text_296 lm_X10_103 yc_J4_toString_0e30d yv_J4_toString_0e30d (c_J4_toString_0e30d (T := (((((((([] : List Nat) ++ cTx 33) ++ txN n fu (kdA q)) ++ cTx 32) ++ cTx 20) ++ cTx 33) ++ txN n fu (kdB q)) ++ cTx 32)) h8 (by simp only [List.length_append, List.length_nil] at hl9 ⊢; omega)) rfl rfl rfl ((arrS Z n1 6 (wdA Z) ++ arrS Z n2 6 (wdB Z)) ++ arrS Z n3 5 (wdC Z)) (wPl Z L) (by simp only [List.append_assoc, List.append_nil, List.nil_append]) rfl (rmT_m (by decide) (by decide)) (Nat.le_of_ble_eq_true rfl) rfl rfl ?_
          rintro _ _ ⟨s9, t9, b9, rfl, rfl, h9⟩
          refine J_st (.ref s9 :: []) rfl ?_
          refine J_ws (((((((arrS Z n1 6 (wdA Z) ++ arrS Z n2 6 (wdB Z)) ++ arrS Z n3 5 (wdC Z)) ++ wTo Z s9 t9) ++ wSo Z n10 y8 (nI (((((((([] : List Nat) ++ cTx 33) ++ txN n fu (kdA q)) ++ cTx 32) ++ cTx 20) ++ cTx 33) ++ txN n fu (kdB q)) ++ cTx 32).length)) ++ arrB Z y8 c8 b8) ++ arrB Z t9 ((((((((([] : List Nat) ++ cTx 33) ++ txN n fu (kdA q)) ++ cTx 32) ++ cTx 20) ++ cTx 33) ++ txN n fu (kdB q)) ++ cTx 32).length) b9) ++ wPl Z L) (by simp only [List.append_assoc, List.append_nil, List.nil_append]) ?_
          refine J_drop [] ((arrS Z n1 6 (wdA Z) ++ arrS Z n2 6 (wdB Z)) ++ arrS Z n3 5 (wdC Z)) ((((wTo Z s9 t9 ++ wSo Z n10 y8 (nI (((((((([] : List Nat) ++ cTx 33) ++ txN n fu (kdA q)) ++ cTx 32) ++ cTx 20) ++ cTx 33) ++ txN n fu (kdB q)) ++ cTx 32).length)) ++ arrB Z y8 c8 b8) ++ arrB Z t9 ((((((((([] : List Nat) ++ cTx 33) ++ txN n fu (kdA q)) ++ cTx 32) ++ cTx 20) ++ cTx 33) ++ txN n fu (kdB q)) ++ cTx 32).length) b9) ++ wPl Z L) (by simp only [List.append_assoc, List.append_nil, List.nil_append]) ?_
          refine J_ws ((((wTo Z s9 t9 ++ wSo Z n10 y8 (nI (((((((([] : List Nat) ++ cTx 33) ++ txN n fu (kdA q)) ++ cTx 32) ++ cTx 20) ++ cTx 33) ++ txN n fu (kdB q)) ++ cTx 32).length)) ++ arrB Z y8 c8 b8) ++ arrB Z t9 ((((((((([] : List Nat) ++ cTx 33) ++ txN n fu (kdA q)) ++ cTx 32) ++ cTx 20) ++ cTx 33) ++ txN n fu (kdB q)) ++ cTx 32).length) b9) ++ wPl Z L) (by simp only [List.append_assoc, List.append_nil, List.nil_append]) ?_
          refine J_drop (wTo Z s9 t9) ((wSo Z n10 y8 (nI (((((((([] : List Nat) ++ cTx 33) ++ txN n fu (kdA q)) ++ cTx 32) ++ cTx 20) ++ cTx 33) ++ txN n fu (kdB q)) ++ cTx 32).length)) ++ arrB Z y8 c8 b8) ((arrB Z t9 ((((((((([] : List Nat) ++ cTx 33) ++ txN n fu (kdA q)) ++ cTx 32) ++ cTx 20) ++ cTx 33) ++ txN n fu (kdB q)) ++ cTx 32).length) b9) ++ wPl Z L) (by simp only [List.append_assoc, List.append_nil, List.nil_append]) ?_
          refine J_ws ((wTo Z s9 t9 ++ arrB Z t9 ((((((((([] : List Nat) ++ cTx 33) ++ txN n fu (kdA q)) ++ cTx 32) ++ cTx 20) ++ cTx 33) ++ txN n fu (kdB q)) ++ cTx 32).length) b9) ++ wPl Z L) (by simp only [List.append_assoc, List.append_nil, List.nil_append]) ?_
          refine J_perm ((wTo Z s9 t9 ++ wPl Z L) ++ arrB Z t9 ((((((((([] : List Nat) ++ cTx 33) ++ txN n fu (kdA q)) ++ cTx 32) ++ cTx 20) ++ cTx 33) ++ txN n fu (kdB q)) ++ cTx 32).length) b9) (sw2 _ _ _) ?_
          refine J_perm ((wPl Z L ++ wTo Z s9 t9) ++ arrB Z t9 ((((((((([] : List Nat) ++ cTx 33) ++ txN n fu (kdA q)) ++ cTx 32) ++ cTx 20) ++ cTx 33) ++ txN n fu (kdB q)) ++ cTx 32).length) b9) (List.perm_append_comm.append_right _) ?_
          exact J_aret C E iX10_text_299 (Or.inl ⟨_, rfl⟩) (Or.inr ⟨s9, _, _, rfl, rfl, h9⟩)
        · refine J_room (rc2 := (tcN fu) + (10 + 0 * tcN fu)) (rs2 := (tsN fu) + (10953 + 0 * tsN fu)) (by omega) (by omega) ?_
          obtain ⟨j1_, e1_, f1_⟩ := InT.at hxb
          refine J_cVb (As := []) (st := .ref n10 :: []) (rc2 := 10 + 0 * tcN fu) (rs2 := 10953 + 0 * tsN fu) (w0 := wPl Z L) (q0 := j1_) C iX10_text_285 lm_X10_111 yc_X10_text yv_X10_text (ih (q := kdB q) hxb (by simp only [List.length_append] at hl9; omega)) rfl rfl (wPl_at f1_) ((((arrS Z n1 6 (wdA Z) ++ arrS Z n2 6 (wdB Z)) ++ arrS Z n3 5 (wdC Z)) ++ wSo Z n10 y6 (nI (((((([] : List Nat) ++ cTx 33) ++ txN n fu (kdA q)) ++ cTx 32) ++ cTx 20) ++ cTx 33).length)) ++ arrB Z y6 c6 b6) [] (by simp only [List.append_assoc, List.append_nil, List.nil_append]) rfl (rmT_le (by omega) (by decide)) (Nat.le_of_ble_eq_true rfl) rfl rfl ?_
          rintro _ _ (⟨j7, hj7, rfl, rfl, e7⟩ | ⟨s7, t7, b7, rfl, rfl, e7⟩)
          · refine J_st (.ref (zsk Z j7) :: .ref n10 :: []) rfl ?_
            refine J_ws (((((arrS Z n1 6 (wdA Z) ++ arrS Z n2 6 (wdB Z)) ++ arrS Z n3 5 (wdC Z)) ++ wSo Z n10 y6 (nI (((((([] : List Nat) ++ cTx 33) ++ txN n fu (kdA q)) ++ cTx 32) ++ cTx 20) ++ cTx 33).length)) ++ arrB Z y6 c6 b6) ++ wPl Z L) (by simp only [List.append_assoc, List.append_nil, List.nil_append]) ?_
            refine J_room (rc2 := 1 + (9 + 0 * tcN fu)) (rs2 := 4002 + (6951 + 0 * tsN fu)) (by omega) (by omega) ?_
            refine J_cVb (As := [.ref (zsk Z j7)]) (st := []) (rc2 := 9 + 0 * tcN fu) (rs2 := 6951 + 0 * tsN fu) (w0 := ((wSo Z n10 y6 (nI (((((([] : List Nat) ++ cTx 33) ++ txN n fu (kdA q)) ++ cTx 32) ++ cTx 20) ++ cTx 33).length)) ++ arrB Z y6 c6 b6)) (q0 := 0) C iX10_text_288 lm_X10_96 yc_J4_append_15ec4 yv_J4_append_15ec4 (c_J4_append_C (T := (((((([] : List Nat) ++ cTx 33) ++ txN n fu (kdA q)) ++ cTx 32) ++ cTx 20) ++ cTx 33)) (i := j7) h6 hj7 (by rw [← e7]; simp only [List.length_append, List.length_nil] at hl9 ⊢; omega)) rfl rfl rfl ((arrS Z n1 6 (wdA Z) ++ arrS Z n2 6 (wdB Z)) ++ arrS Z n3 5 (wdC Z)) (wPl Z L) (by simp only [List.append_assoc, List.append_nil, List.nil_append]) rfl (rmT_m (by decide) (by decide)) (Nat.le_of_ble_eq_true rfl) rfl rfl ?_
            rintro _ _ ⟨rfl, y10, c10, b10, rfl, h10⟩
            refine J_st (.ref n10 :: []) rfl ?_
            refine J_ws (((((arrS Z n1 6 (wdA Z) ++ arrS Z n2 6 (wdB Z)) ++ arrS Z n3 5 (wdC Z)) ++ wSo Z n10 y10 (nI ((((((([] : List Nat) ++ cTx 33) ++ txN n fu (kdA q)) ++ cTx 32) ++ cTx 20) ++ cTx 33) ++ cTx j7).length)) ++ arrB Z y10 c10 b10) ++ wPl Z L) (by simp only [List.append_assoc, List.append_nil, List.nil_append]) ?_
            rw [← e7]
            exact hk291_7 (y10, c10, b10) (by rw [e7]; exact h10)
          · refine J_st (.ref s7 :: .ref n10 :: []) rfl ?_
            refine J_ws (((((((arrS Z n1 6 (wdA Z) ++ arrS Z n2 6 (wdB Z)) ++ arrS Z n3 5 (wdC Z)) ++ wSo Z n10 y6 (nI (((((([] : List Nat) ++ cTx 33) ++ txN n fu (kdA q)) ++ cTx 32) ++ cTx 20) ++ cTx 33).length)) ++ arrB Z y6 c6 b6) ++ wPl Z L) ++ wTo Z s7 t7) ++ arrB Z t7 ((txN n fu (kdB q)).length) b7) (by simp only [List.append_assoc, List.append_nil, List.nil_append]) ?_
            refine J_perm (((((((arrS Z n1 6 (wdA Z) ++ arrS Z n2 6 (wdB Z)) ++ arrS Z n3 5 (wdC Z)) ++ wSo Z n10 y6 (nI (((((([] : List Nat) ++ cTx 33) ++ txN n fu (kdA q)) ++ cTx 32) ++ cTx 20) ++ cTx 33).length)) ++ arrB Z y6 c6 b6) ++ wTo Z s7 t7) ++ wPl Z L) ++ arrB Z t7 ((txN n fu (kdB q)).length) b7) ((sw2 _ _ _).append_right _) ?_
            refine J_perm (((((((arrS Z n1 6 (wdA Z) ++ arrS Z n2 6 (wdB Z)) ++ arrS Z n3 5 (wdC Z)) ++ wSo Z n10 y6 (nI (((((([] : List Nat) ++ cTx 33) ++ txN n fu (kdA q)) ++ cTx 32) ++ cTx 20) ++ cTx 33).length)) ++ arrB Z y6 c6 b6) ++ wTo Z s7 t7) ++ arrB Z t7 ((txN n fu (kdB q)).length) b7) ++ wPl Z L) (sw2 _ _ _) ?_
            refine J_room (rc2 := 1 + (9 + 0 * tcN fu)) (rs2 := 4002 + (6951 + 0 * tsN fu)) (by omega) (by omega) ?_
            refine J_cVb (As := [.ref s7]) (st := []) (rc2 := 9 + 0 * tcN fu) (rs2 := 6951 + 0 * tsN fu) (w0 := ((((wSo Z n10 y6 (nI (((((([] : List Nat) ++ cTx 33) ++ txN n fu (kdA q)) ++ cTx 32) ++ cTx 20) ++ cTx 33).length)) ++ arrB Z y6 c6 b6) ++ wTo Z s7 t7) ++ arrB Z t7 ((txN n fu (kdB q)).length) b7)) (q0 := 0) C iX10_text_288 lm_X10_96 yc_J4_append_15ec4 yv_J4_append_15ec4 (c_J4_append_D (T := (((((([] : List Nat) ++ cTx 33) ++ txN n fu (kdA q)) ++ cTx 32) ++ cTx 20) ++ cTx 33)) (S := txN n fu (kdB q)) h6 e7 (by simp only [List.length_append, List.length_nil] at hl9 ⊢; omega)) rfl rfl rfl ((arrS Z n1 6 (wdA Z) ++ arrS Z n2 6 (wdB Z)) ++ arrS Z n3 5 (wdC Z)) (wPl Z L) (by simp only [List.append_assoc, List.append_nil, List.nil_append]) rfl (rmT_m (by decide) (by decide)) (Nat.le_of_ble_eq_true rfl) rfl rfl ?_
            rintro _ _ ⟨rfl, y11, c11, b11, rfl, h11⟩
            refine J_st (.ref n10 :: []) rfl ?_
            refine J_ws (((((((arrS Z n1 6 (wdA Z) ++ arrS Z n2 6 (wdB Z)) ++ arrS Z n3 5 (wdC Z)) ++ wSo Z n10 y11 (nI ((((((([] : List Nat) ++ cTx 33) ++ txN n fu (kdA q)) ++ cTx 32) ++ cTx 20) ++ cTx 33) ++ txN n fu (kdB q)).length)) ++ arrB Z y11 c11 b11) ++ wTo Z s7 t7) ++ arrB Z t7 ((txN n fu (kdB q)).length) b7) ++ wPl Z L) (by simp only [List.append_assoc, List.append_nil, List.nil_append]) ?_
            refine J_drop ((((arrS Z n1 6 (wdA Z) ++ arrS Z n2 6 (wdB Z)) ++ arrS Z n3 5 (wdC Z)) ++ wSo Z n10 y11 (nI ((((((([] : List Nat) ++ cTx 33) ++ txN n fu (kdA q)) ++ cTx 32) ++ cTx 20) ++ cTx 33) ++ txN n fu (kdB q)).length)) ++ arrB Z y11 c11 b11) (wTo Z s7 t7 ++ arrB Z t7 ((txN n fu (kdB q)).length) b7) (wPl Z L) (by simp only [List.append_assoc, List.append_nil, List.nil_append]) ?_
            refine J_ws (((((arrS Z n1 6 (wdA Z) ++ arrS Z n2 6 (wdB Z)) ++ arrS Z n3 5 (wdC Z)) ++ wSo Z n10 y11 (nI ((((((([] : List Nat) ++ cTx 33) ++ txN n fu (kdA q)) ++ cTx 32) ++ cTx 20) ++ cTx 33) ++ txN n fu (kdB q)).length)) ++ arrB Z y11 c11 b11) ++ wPl Z L) (by simp only [List.append_assoc, List.append_nil, List.nil_append]) ?_
            exact hk291_7 (y11, c11, b11) h11
      · refine J_room (rc2 := (tcN fu) + (14 + 1 * tcN fu)) (rs2 := (tsN fu) + (26961 + 1 * tsN fu)) (by omega) (by omega) ?_
        obtain ⟨j2_, e2_, f2_⟩ := InT.at hxa
        refine J_cVb (As := []) (st := .ref n10 :: []) (rc2 := 14 + 1 * tcN fu) (rs2 := 26961 + 1 * tsN fu) (w0 := wPl Z L) (q0 := j2_) C iX10_text_253 lm_X10_111 yc_X10_text yv_X10_text (ih (q := kdA q) hxa (by simp only [List.length_append] at hl9; omega)) rfl rfl (wPl_at f2_) ((((arrS Z n1 6 (wdA Z) ++ arrS Z n2 6 (wdB Z)) ++ arrS Z n3 5 (wdC Z)) ++ wSo Z n10 y2 (nI (([] : List Nat) ++ cTx 33).length)) ++ arrB Z y2 c2 b2) [] (by simp only [List.append_assoc, List.append_nil, List.nil_append]) rfl (rmT_le (by omega) (by decide)) (Nat.le_of_ble_eq_true rfl) rfl rfl ?_
        rintro _ _ (⟨j3, hj3, rfl, rfl, e3⟩ | ⟨s3, t3, b3, rfl, rfl, e3⟩)
        · refine J_st (.ref (zsk Z j3) :: .ref n10 :: []) rfl ?_
          refine J_ws (((((arrS Z n1 6 (wdA Z) ++ arrS Z n2 6 (wdB Z)) ++ arrS Z n3 5 (wdC Z)) ++ wSo Z n10 y2 (nI (([] : List Nat) ++ cTx 33).length)) ++ arrB Z y2 c2 b2) ++ wPl Z L) (by simp only [List.append_assoc, List.append_nil, List.nil_append]) ?_
          refine J_room (rc2 := 1 + (13 + 1 * tcN fu)) (rs2 := 4002 + (22959 + 1 * tsN fu)) (by omega) (by omega) ?_
          refine J_cVb (As := [.ref (zsk Z j3)]) (st := []) (rc2 := 13 + 1 * tcN fu) (rs2 := 22959 + 1 * tsN fu) (w0 := ((wSo Z n10 y2 (nI (([] : List Nat) ++ cTx 33).length)) ++ arrB Z y2 c2 b2)) (q0 := 0) C iX10_text_256 lm_X10_96 yc_J4_append_15ec4 yv_J4_append_15ec4 (c_J4_append_C (T := (([] : List Nat) ++ cTx 33)) (i := j3) h2 hj3 (by rw [← e3]; simp only [List.length_append, List.length_nil] at hl9 ⊢; omega)) rfl rfl rfl ((arrS Z n1 6 (wdA Z) ++ arrS Z n2 6 (wdB Z)) ++ arrS Z n3 5 (wdC Z)) (wPl Z L) (by simp only [List.append_assoc, List.append_nil, List.nil_append]) rfl (rmT_m (by decide) (by decide)) (Nat.le_of_ble_eq_true rfl) rfl rfl ?_
          rintro _ _ ⟨rfl, y12, c12, b12, rfl, h12⟩
          refine J_st (.ref n10 :: []) rfl ?_
          refine J_ws (((((arrS Z n1 6 (wdA Z) ++ arrS Z n2 6 (wdB Z)) ++ arrS Z n3 5 (wdC Z)) ++ wSo Z n10 y12 (nI ((([] : List Nat) ++ cTx 33) ++ cTx j3).length)) ++ arrB Z y12 c12 b12) ++ wPl Z L) (by simp only [List.append_assoc, List.append_nil, List.nil_append]) ?_
          rw [← e3]
          exact hk259_3 (y12, c12, b12) (by rw [e3]; exact h12)
        · refine J_st (.ref s3 :: .ref n10 :: []) rfl ?_
          refine J_ws (((((((arrS Z n1 6 (wdA Z) ++ arrS Z n2 6 (wdB Z)) ++ arrS Z n3 5 (wdC Z)) ++ wSo Z n10 y2 (nI (([] : List Nat) ++ cTx 33).length)) ++ arrB Z y2 c2 b2) ++ wPl Z L) ++ wTo Z s3 t3) ++ arrB Z t3 ((txN n fu (kdA q)).length) b3) (by simp only [List.append_assoc, List.append_nil, List.nil_append]) ?_
          refine J_perm (((((((arrS Z n1 6 (wdA Z) ++ arrS Z n2 6 (wdB Z)) ++ arrS Z n3 5 (wdC Z)) ++ wSo Z n10 y2 (nI (([] : List Nat) ++ cTx 33).length)) ++ arrB Z y2 c2 b2) ++ wTo Z s3 t3) ++ wPl Z L) ++ arrB Z t3 ((txN n fu (kdA q)).length) b3) ((sw2 _ _ _).append_right _) ?_
          refine J_perm (((((((arrS Z n1 6 (wdA Z) ++ arrS Z n2 6 (wdB Z)) ++ arrS Z n3 5 (wdC Z)) ++ wSo Z n10 y2 (nI (([] : List Nat) ++ cTx 33).length)) ++ arrB Z y2 c2 b2) ++ wTo Z s3 t3) ++ arrB Z t3 ((txN n fu (kdA q)).length) b3) ++ wPl Z L) (sw2 _ _ _) ?_
          refine J_room (rc2 := 1 + (13 + 1 * tcN fu)) (rs2 := 4002 + (22959 + 1 * tsN fu)) (by omega) (by omega) ?_
          refine J_cVb (As := [.ref s3]) (st := []) (rc2 := 13 + 1 * tcN fu) (rs2 := 22959 + 1 * tsN fu) (w0 := ((((wSo Z n10 y2 (nI (([] : List Nat) ++ cTx 33).length)) ++ arrB Z y2 c2 b2) ++ wTo Z s3 t3) ++ arrB Z t3 ((txN n fu (kdA q)).length) b3)) (q0 := 0) C iX10_text_256 lm_X10_96 yc_J4_append_15ec4 yv_J4_append_15ec4 (c_J4_append_D (T := (([] : List Nat) ++ cTx 33)) (S := txN n fu (kdA q)) h2 e3 (by simp only [List.length_append, List.length_nil] at hl9 ⊢; omega)) rfl rfl rfl ((arrS Z n1 6 (wdA Z) ++ arrS Z n2 6 (wdB Z)) ++ arrS Z n3 5 (wdC Z)) (wPl Z L) (by simp only [List.append_assoc, List.append_nil, List.nil_append]) rfl (rmT_m (by decide) (by decide)) (Nat.le_of_ble_eq_true rfl) rfl rfl ?_
          rintro _ _ ⟨rfl, y13, c13, b13, rfl, h13⟩
          refine J_st (.ref n10 :: []) rfl ?_
          refine J_ws (((((((arrS Z n1 6 (wdA Z) ++ arrS Z n2 6 (wdB Z)) ++ arrS Z n3 5 (wdC Z)) ++ wSo Z n10 y13 (nI ((([] : List Nat) ++ cTx 33) ++ txN n fu (kdA q)).length)) ++ arrB Z y13 c13 b13) ++ wTo Z s3 t3) ++ arrB Z t3 ((txN n fu (kdA q)).length) b3) ++ wPl Z L) (by simp only [List.append_assoc, List.append_nil, List.nil_append]) ?_
          refine J_drop ((((arrS Z n1 6 (wdA Z) ++ arrS Z n2 6 (wdB Z)) ++ arrS Z n3 5 (wdC Z)) ++ wSo Z n10 y13 (nI ((([] : List Nat) ++ cTx 33) ++ txN n fu (kdA q)).length)) ++ arrB Z y13 c13 b13) (wTo Z s3 t3 ++ arrB Z t3 ((txN n fu (kdA q)).length) b3) (wPl Z L) (by simp only [List.append_assoc, List.append_nil, List.nil_append]) ?_
          refine J_ws (((((arrS Z n1 6 (wdA Z) ++ arrS Z n2 6 (wdB Z)) ++ arrS Z n3 5 (wdC Z)) ++ wSo Z n10 y13 (nI ((([] : List Nat) ++ cTx 33) ++ txN n fu (kdA q)).length)) ++ arrB Z y13 c13 b13) ++ wPl Z L) (by simp only [List.append_assoc, List.append_nil, List.nil_append]) ?_
          exact hk259_3 (y13, c13, b13) h13
    · rw [hk] at hi9 hbA hbB
      obtain ⟨xa, rfl, hxa⟩ := hbA rfl
      obtain ⟨xb, rfl, hxb⟩ := hbB rfl
      have htx : txN n (fu + 1) q = (((((((([] : List Nat) ++ cTx 33) ++ (txN n fu (kdA q))) ++ cTx 32) ++ cTx 21) ++ cTx 33) ++ (txN n fu (kdB q))) ++ cTx 32) := by rw [txN, tx1, if_neg (by omega), if_neg (by omega), if_neg (by omega), if_neg (by omega), if_neg (by omega), if_neg (by omega), if_neg (by omega), if_neg (by omega), if_neg (by omega), if_pos hk]
      rw [htx] at hl9 ⊢
      refine J_aload_n C iX10_text_102 rfl rfl ?_
      refine J_get (.int 9) ((((arrS Z n1 6 (wdA Z) ++ arrS Z n2 6 (wdB Z)) ++ arrS Z n3 5 (wdC Z))).length + i) C iX10_text_103 gf_X10_7 (mid_at (A := ((arrS Z n1 6 (wdA Z) ++ arrS Z n2 6 (wdB Z)) ++ arrS Z n3 5 (wdC Z))) (M := wPl Z L) (B := []) (by simp only [List.append_assoc, List.append_nil, List.nil_append]) (wPl_at hi9)) rfl ?_
      refine J_ifne 132 C iX10_text_106 rfl (fun h106 => ?_) (fun h106 => absurd h106 (by decide))
      refine J_aload_n C iX10_text_132 rfl rfl ?_
      refine J_get (.int 9) ((((arrS Z n1 6 (wdA Z) ++ arrS Z n2 6 (wdB Z)) ++ arrS Z n3 5 (wdC Z))).length + i) C iX10_text_133 gf_X10_7 (mid_at (A := ((arrS Z n1 6 (wdA Z) ++ arrS Z n2 6 (wdB Z)) ++ arrS Z n3 5 (wdC Z))) (M := wPl Z L) (B := []) (by simp only [List.append_assoc, List.append_nil, List.nil_append]) (wPl_at hi9)) rfl ?_
      refine J_iconst 3 C iX10_text_136 rfl ?_
      refine J_icmpge 147 C iX10_text_137 rfl (fun h137 => ?_) (fun h137 => absurd (by decide) h137)
      refine J_aload_n C iX10_text_147 rfl rfl ?_
      refine J_get (.int 9) ((((arrS Z n1 6 (wdA Z) ++ arrS Z n2 6 (wdB Z)) ++ arrS Z n3 5 (wdC Z))).length + i) C iX10_text_148 gf_X10_7 (mid_at (A := ((arrS Z n1 6 (wdA Z) ++ arrS Z n2 6 (wdB Z)) ++ arrS Z n3 5 (wdC Z))) (M := wPl Z L) (B := []) (by simp only [List.append_assoc, List.append_nil, List.nil_append]) (wPl_at hi9)) rfl ?_
      refine J_bipush 6 C iX10_text_151 rfl ?_
      refine J_icmpge 188 C iX10_text_153 rfl (fun h153 => ?_) (fun h153 => absurd (by decide) h153)
      refine J_aload_n C iX10_text_188 rfl rfl ?_
      refine J_get (.int 9) ((((arrS Z n1 6 (wdA Z) ++ arrS Z n2 6 (wdB Z)) ++ arrS Z n3 5 (wdC Z))).length + i) C iX10_text_189 gf_X10_7 (mid_at (A := ((arrS Z n1 6 (wdA Z) ++ arrS Z n2 6 (wdB Z)) ++ arrS Z n3 5 (wdC Z))) (M := wPl Z L) (B := []) (by simp only [List.append_assoc, List.append_nil, List.nil_append]) (wPl_at hi9)) rfl ?_
      refine J_bipush 6 C iX10_text_192 rfl ?_
      refine J_icmpne 228 C iX10_text_194 rfl (fun h194 => ?_) (fun h194 => absurd h194 (by decide))
      refine J_aload_n C iX10_text_228 rfl rfl ?_
      refine J_get (.int 9) ((((arrS Z n1 6 (wdA Z) ++ arrS Z n2 6 (wdB Z)) ++ arrS Z n3 5 (wdC Z))).length + i) C iX10_text_229 gf_X10_7 (mid_at (A := ((arrS Z n1 6 (wdA Z) ++ arrS Z n2 6 (wdB Z)) ++ arrS Z n3 5 (wdC Z))) (M := wPl Z L) (B := []) (by simp only [List.append_assoc, List.append_nil, List.nil_append]) (wPl_at hi9)) rfl ?_
      refine J_bipush 11 C iX10_text_232 rfl ?_
      refine J_icmpge 300 C iX10_text_234 rfl (fun h234 => absurd h234 (by decide)) (fun h234 => ?_)
      refine J_room (rc2 := 1 + (16 + 2 * tcN fu)) (rs2 := 4 + (30979 + 2 * tsN fu)) (by omega) (by omega) ?_
      refine J_new (ci := 11) [.null, .int 0, .int 0, .int 0] tyJ4 C iX10_text_237 rfl lay_J4 tyJ4_ok (tsg_in (i := 1410) (by decide +kernel) rfl) (tsg_in (i := 1411) (by decide +kernel) rfl) (tsg_in (i := 45) (by decide +kernel) rfl) df_J4 (fun n11 => ?_)
      refine J_ws ((((arrS Z n1 6 (wdA Z) ++ arrS Z n2 6 (wdB Z)) ++ arrS Z n3 5 (wdC Z)) ++ wPl Z L) ++ wS0 Z n11) rfl ?_
      refine J_perm ((((arrS Z n1 6 (wdA Z) ++ arrS Z n2 6 (wdB Z)) ++ arrS Z n3 5 (wdC Z)) ++ wS0 Z n11) ++ wPl Z L) (sw2 _ _ _) ?_
      refine J_dup C iX10_text_240 rfl ?_
      refine J_room (rc2 := 1 + (15 + 2 * tcN fu)) (rs2 := 16 + (30963 + 2 * tsN fu)) (by omega) (by omega) ?_
      refine J_cIb (As := []) (st := .ref n11 :: []) (rc2 := 15 + 2 * tcN fu) (rs2 := 30963 + 2 * tsN fu) (w0 := (wS0 Z n11)) C iX10_text_241 lm_X10_95 yc_J4_init_da8c8 yi_J4_init_da8c8 c_J4_init_da8c8 ((arrS Z n1 6 (wdA Z) ++ arrS Z n2 6 (wdB Z)) ++ arrS Z n3 5 (wdC Z)) (wPl Z L) (by simp only [List.append_assoc, List.append_nil, List.nil_append]) rfl (rmT_m (by decide) (by decide)) (Nat.le_of_ble_eq_true rfl) rfl rfl ?_
      rintro _ _ ⟨rfl, q1, rfl⟩
      refine J_st (.ref n11 :: []) rfl ?_
      refine J_ws (((((arrS Z n1 6 (wdA Z) ++ arrS Z n2 6 (wdB Z)) ++ arrS Z n3 5 (wdC Z)) ++ wSo Z n11 q1 0) ++ arrB Z q1 16 (fun _ => 0)) ++ wPl Z L) (by simp only [List.append_assoc, List.append_nil, List.nil_append]) ?_
      refine J_ldcS 33 C iX10_text_244 rfl ?_
      refine J_room (rc2 := 1 + (14 + 2 * tcN fu)) (rs2 := 4002 + (26961 + 2 * tsN fu)) (by omega) (by omega) ?_
      refine J_cVb (As := [.ref (zsk Z 33)]) (st := []) (rc2 := 14 + 2 * tcN fu) (rs2 := 26961 + 2 * tsN fu) (w0 := (wSo Z n11 q1 0 ++ arrB Z q1 16 (fun _ => 0))) (q0 := 0) C iX10_text_246 lm_X10_96 yc_J4_append_15ec4 yv_J4_append_15ec4 (c_J4_append_C (T := ([] : List Nat)) (i := 33) sb_new (by decide) (by simp only [List.length_append, List.length_nil] at hl9 ⊢; omega)) rfl rfl rfl ((arrS Z n1 6 (wdA Z) ++ arrS Z n2 6 (wdB Z)) ++ arrS Z n3 5 (wdC Z)) (wPl Z L) (by simp only [List.append_assoc, List.append_nil, List.nil_append]) rfl (rmT_m (by decide) (by decide)) (Nat.le_of_ble_eq_true rfl) rfl rfl ?_
      rintro _ _ ⟨rfl, y2, c2, b2, rfl, h2⟩
      refine J_st (.ref n11 :: []) rfl ?_
      refine J_ws (((((arrS Z n1 6 (wdA Z) ++ arrS Z n2 6 (wdB Z)) ++ arrS Z n3 5 (wdC Z)) ++ wSo Z n11 y2 (nI (([] : List Nat) ++ cTx 33).length)) ++ arrB Z y2 c2 b2) ++ wPl Z L) (by simp only [List.append_assoc, List.append_nil, List.nil_append]) ?_
      refine J_aload_n C iX10_text_249 rfl rfl ?_
      refine J_get (.ref xa) ((((((arrS Z n1 6 (wdA Z) ++ arrS Z n2 6 (wdB Z)) ++ arrS Z n3 5 (wdC Z)) ++ wSo Z n11 y2 (nI (([] : List Nat) ++ cTx 33).length)) ++ arrB Z y2 c2 b2)).length + i) C iX10_text_250 gf_X10_36 (mid_at (A := ((((arrS Z n1 6 (wdA Z) ++ arrS Z n2 6 (wdB Z)) ++ arrS Z n3 5 (wdC Z)) ++ wSo Z n11 y2 (nI (([] : List Nat) ++ cTx 33).length)) ++ arrB Z y2 c2 b2)) (M := wPl Z L) (B := []) (by simp only [List.append_assoc, List.append_nil, List.nil_append]) (wPl_at hi9)) rfl ?_
      refine J_alt (ι := Nat × Nat × (Nat → Int32)) (P := fun i9 => SbT ((([] : List Nat) ++ cTx 33) ++ txN n fu (kdA q)) i9.2.1 i9.2.2) (13 + 1 * tcN fu) (22959 + 1 * tsN fu) 259 (fun _ => [(3, .ref n3), (2, .ref n2), (1, .ref n1), (0, .ref a)]) (fun _ => .ref n11 :: []) (fun i9 => (((((arrS Z n1 6 (wdA Z) ++ arrS Z n2 6 (wdB Z)) ++ arrS Z n3 5 (wdC Z)) ++ wSo Z n11 i9.1 (nI ((([] : List Nat) ++ cTx 33) ++ txN n fu (kdA q)).length)) ++ arrB Z i9.1 i9.2.1 i9.2.2) ++ wPl Z L)) (fun i9 hi9_ => ?_) (fun hk259_3 => ?_)
      · obtain ⟨z3, k3, m3⟩ := i9
        have g3 : SbT ((([] : List Nat) ++ cTx 33) ++ txN n fu (kdA q)) k3 m3 := hi9_
        refine J_ws (((((arrS Z n1 6 (wdA Z) ++ arrS Z n2 6 (wdB Z)) ++ arrS Z n3 5 (wdC Z)) ++ wSo Z n11 z3 (nI ((([] : List Nat) ++ cTx 33) ++ txN n fu (kdA q)).length)) ++ arrB Z z3 k3 m3) ++ wPl Z L) rfl ?_
        refine J_ldcS 32 C iX10_text_259 rfl ?_
        refine J_room (rc2 := 1 + (12 + 1 * tcN fu)) (rs2 := 4002 + (18957 + 1 * tsN fu)) (by omega) (by omega) ?_
        refine J_cVb (As := [.ref (zsk Z 32)]) (st := []) (rc2 := 12 + 1 * tcN fu) (rs2 := 18957 + 1 * tsN fu) (w0 := ((wSo Z n11 z3 (nI ((([] : List Nat) ++ cTx 33) ++ txN n fu (kdA q)).length)) ++ arrB Z z3 k3 m3)) (q0 := 0) C iX10_text_261 lm_X10_96 yc_J4_append_15ec4 yv_J4_append_15ec4 (c_J4_append_C (T := ((([] : List Nat) ++ cTx 33) ++ txN n fu (kdA q))) (i := 32) g3 (by decide) (by simp only [List.length_append, List.length_nil] at hl9 ⊢; omega)) rfl rfl rfl ((arrS Z n1 6 (wdA Z) ++ arrS Z n2 6 (wdB Z)) ++ arrS Z n3 5 (wdC Z)) (wPl Z L) (by simp only [List.append_assoc, List.append_nil, List.nil_append]) rfl (rmT_m (by decide) (by decide)) (Nat.le_of_ble_eq_true rfl) rfl rfl ?_
        rintro _ _ ⟨rfl, y4, c4, b4, rfl, h4⟩
        refine J_st (.ref n11 :: []) rfl ?_
        refine J_ws (((((arrS Z n1 6 (wdA Z) ++ arrS Z n2 6 (wdB Z)) ++ arrS Z n3 5 (wdC Z)) ++ wSo Z n11 y4 (nI (((([] : List Nat) ++ cTx 33) ++ txN n fu (kdA q)) ++ cTx 32).length)) ++ arrB Z y4 c4 b4) ++ wPl Z L) (by simp only [List.append_assoc, List.append_nil, List.nil_append]) ?_
        refine J_aload_n C iX10_text_264 rfl rfl ?_
        refine J_aload_n C iX10_text_265 rfl rfl ?_
        refine J_get (.int 9) ((((((arrS Z n1 6 (wdA Z) ++ arrS Z n2 6 (wdB Z)) ++ arrS Z n3 5 (wdC Z)) ++ wSo Z n11 y4 (nI (((([] : List Nat) ++ cTx 33) ++ txN n fu (kdA q)) ++ cTx 32).length)) ++ arrB Z y4 c4 b4)).length + i) C iX10_text_266 gf_X10_7 (mid_at (A := ((((arrS Z n1 6 (wdA Z) ++ arrS Z n2 6 (wdB Z)) ++ arrS Z n3 5 (wdC Z)) ++ wSo Z n11 y4 (nI (((([] : List Nat) ++ cTx 33) ++ txN n fu (kdA q)) ++ cTx 32).length)) ++ arrB Z y4 c4 b4)) (M := wPl Z L) (B := []) (by simp only [List.append_assoc, List.append_nil, List.nil_append]) (wPl_at hi9)) rfl ?_
        refine J_bipush 7 C iX10_text_269 rfl ?_
        refine J_isub C iX10_text_271 ?_
        rw [show (9 - 7 : Int32) = 2 from rfl]
        refine J_aaldS 1 C iX10_text_272 rfl (vp_in_nI (n := 2) (by decide) (by decide)) ?_
        rw [show Int32.toNatClampNeg 2 = 2 from rfl]
        refine J_st (.ref (zsk Z 21) :: .ref n11 :: []) rfl ?_
        refine J_room (rc2 := 1 + (11 + 1 * tcN fu)) (rs2 := 4002 + (14955 + 1 * tsN fu)) (by omega) (by omega) ?_
        refine J_cVb (As := [.ref (zsk Z 21)]) (st := []) (rc2 := 11 + 1 * tcN fu) (rs2 := 14955 + 1 * tsN fu) (w0 := ((wSo Z n11 y4 (nI (((([] : List Nat) ++ cTx 33) ++ txN n fu (kdA q)) ++ cTx 32).length)) ++ arrB Z y4 c4 b4)) (q0 := 0) C iX10_text_273 lm_X10_96 yc_J4_append_15ec4 yv_J4_append_15ec4 (c_J4_append_C (T := (((([] : List Nat) ++ cTx 33) ++ txN n fu (kdA q)) ++ cTx 32)) (i := 21) h4 (by decide) (by simp only [List.length_append, List.length_nil] at hl9 ⊢; omega)) rfl rfl rfl ((arrS Z n1 6 (wdA Z) ++ arrS Z n2 6 (wdB Z)) ++ arrS Z n3 5 (wdC Z)) (wPl Z L) (by simp only [List.append_assoc, List.append_nil, List.nil_append]) rfl (rmT_m (by decide) (by decide)) (Nat.le_of_ble_eq_true rfl) rfl rfl ?_
        rintro _ _ ⟨rfl, y5, c5, b5, rfl, h5⟩
        refine J_st (.ref n11 :: []) rfl ?_
        refine J_ws (((((arrS Z n1 6 (wdA Z) ++ arrS Z n2 6 (wdB Z)) ++ arrS Z n3 5 (wdC Z)) ++ wSo Z n11 y5 (nI ((((([] : List Nat) ++ cTx 33) ++ txN n fu (kdA q)) ++ cTx 32) ++ cTx 21).length)) ++ arrB Z y5 c5 b5) ++ wPl Z L) (by simp only [List.append_assoc, List.append_nil, List.nil_append]) ?_
        refine J_ldcS 33 C iX10_text_276 rfl ?_
        refine J_room (rc2 := 1 + (10 + 1 * tcN fu)) (rs2 := 4002 + (10953 + 1 * tsN fu)) (by omega) (by omega) ?_
        refine J_cVb (As := [.ref (zsk Z 33)]) (st := []) (rc2 := 10 + 1 * tcN fu) (rs2 := 10953 + 1 * tsN fu) (w0 := ((wSo Z n11 y5 (nI ((((([] : List Nat) ++ cTx 33) ++ txN n fu (kdA q)) ++ cTx 32) ++ cTx 21).length)) ++ arrB Z y5 c5 b5)) (q0 := 0) C iX10_text_278 lm_X10_96 yc_J4_append_15ec4 yv_J4_append_15ec4 (c_J4_append_C (T := ((((([] : List Nat) ++ cTx 33) ++ txN n fu (kdA q)) ++ cTx 32) ++ cTx 21)) (i := 33) h5 (by decide) (by simp only [List.length_append, List.length_nil] at hl9 ⊢; omega)) rfl rfl rfl ((arrS Z n1 6 (wdA Z) ++ arrS Z n2 6 (wdB Z)) ++ arrS Z n3 5 (wdC Z)) (wPl Z L) (by simp only [List.append_assoc, List.append_nil, List.nil_append]) rfl (rmT_m (by decide) (by decide)) (Nat.le_of_ble_eq_true rfl) rfl rfl ?_
        rintro _ _ ⟨rfl, y6, c6, b6, rfl, h6⟩
        refine J_st (.ref n11 :: []) rfl ?_
        refine J_ws (((((arrS Z n1 6 (wdA Z) ++ arrS Z n2 6 (wdB Z)) ++ arrS Z n3 5 (wdC Z)) ++ wSo Z n11 y6 (nI (((((([] : List Nat) ++ cTx 33) ++ txN n fu (kdA q)) ++ cTx 32) ++ cTx 21) ++ cTx 33).length)) ++ arrB Z y6 c6 b6) ++ wPl Z L) (by simp only [List.append_assoc, List.append_nil, List.nil_append]) ?_
        refine J_aload_n C iX10_text_281 rfl rfl ?_
        refine J_get (.ref xb) ((((((arrS Z n1 6 (wdA Z) ++ arrS Z n2 6 (wdB Z)) ++ arrS Z n3 5 (wdC Z)) ++ wSo Z n11 y6 (nI (((((([] : List Nat) ++ cTx 33) ++ txN n fu (kdA q)) ++ cTx 32) ++ cTx 21) ++ cTx 33).length)) ++ arrB Z y6 c6 b6)).length + i) C iX10_text_282 gf_X10_51 (mid_at (A := ((((arrS Z n1 6 (wdA Z) ++ arrS Z n2 6 (wdB Z)) ++ arrS Z n3 5 (wdC Z)) ++ wSo Z n11 y6 (nI (((((([] : List Nat) ++ cTx 33) ++ txN n fu (kdA q)) ++ cTx 32) ++ cTx 21) ++ cTx 33).length)) ++ arrB Z y6 c6 b6)) (M := wPl Z L) (B := []) (by simp only [List.append_assoc, List.append_nil, List.nil_append]) (wPl_at hi9)) rfl ?_
        refine J_alt (ι := Nat × Nat × (Nat → Int32)) (P := fun i9 => SbT ((((((([] : List Nat) ++ cTx 33) ++ txN n fu (kdA q)) ++ cTx 32) ++ cTx 21) ++ cTx 33) ++ txN n fu (kdB q)) i9.2.1 i9.2.2) (9 + 0 * tcN fu) (6951 + 0 * tsN fu) 291 (fun _ => [(3, .ref n3), (2, .ref n2), (1, .ref n1), (0, .ref a)]) (fun _ => .ref n11 :: []) (fun i9 => (((((arrS Z n1 6 (wdA Z) ++ arrS Z n2 6 (wdB Z)) ++ arrS Z n3 5 (wdC Z)) ++ wSo Z n11 i9.1 (nI ((((((([] : List Nat) ++ cTx 33) ++ txN n fu (kdA q)) ++ cTx 32) ++ cTx 21) ++ cTx 33) ++ txN n fu (kdB q)).length)) ++ arrB Z i9.1 i9.2.1 i9.2.2) ++ wPl Z L)) (fun i9 hi9_ => ?_) (fun hk291_7 => ?_)
        · obtain ⟨z7, k7, m7⟩ := i9
          have g7 : SbT ((((((([] : List Nat) ++ cTx 33) ++ txN n fu (kdA q)) ++ cTx 32) ++ cTx 21) ++ cTx 33) ++ txN n fu (kdB q)) k7 m7 := hi9_
          refine J_ws (((((arrS Z n1 6 (wdA Z) ++ arrS Z n2 6 (wdB Z)) ++ arrS Z n3 5 (wdC Z)) ++ wSo Z n11 z7 (nI ((((((([] : List Nat) ++ cTx 33) ++ txN n fu (kdA q)) ++ cTx 32) ++ cTx 21) ++ cTx 33) ++ txN n fu (kdB q)).length)) ++ arrB Z z7 k7 m7) ++ wPl Z L) rfl ?_
          refine J_ldcS 32 C iX10_text_291 rfl ?_
          refine J_room (rc2 := 1 + (8 + 0 * tcN fu)) (rs2 := 4002 + (2949 + 0 * tsN fu)) (by omega) (by omega) ?_
          refine J_cVb (As := [.ref (zsk Z 32)]) (st := []) (rc2 := 8 + 0 * tcN fu) (rs2 := 2949 + 0 * tsN fu) (w0 := ((wSo Z n11 z7 (nI ((((((([] : List Nat) ++ cTx 33) ++ txN n fu (kdA q)) ++ cTx 32) ++ cTx 21) ++ cTx 33) ++ txN n fu (kdB q)).length)) ++ arrB Z z7 k7 m7)) (q0 := 0) C iX10_text_293 lm_X10_96 yc_J4_append_15ec4 yv_J4_append_15ec4 (c_J4_append_C (T := ((((((([] : List Nat) ++ cTx 33) ++ txN n fu (kdA q)) ++ cTx 32) ++ cTx 21) ++ cTx 33) ++ txN n fu (kdB q))) (i := 32) g7 (by decide) (by simp only [List.length_append, List.length_nil] at hl9 ⊢; omega)) rfl rfl rfl ((arrS Z n1 6 (wdA Z) ++ arrS Z n2 6 (wdB Z)) ++ arrS Z n3 5 (wdC Z)) (wPl Z L) (by simp only [List.append_assoc, List.append_nil, List.nil_append]) rfl (rmT_m (by decide) (by decide)) (Nat.le_of_ble_eq_true rfl) rfl rfl ?_
          rintro _ _ ⟨rfl, y8, c8, b8, rfl, h8⟩
          refine J_st (.ref n11 :: []) rfl ?_
          refine J_ws (((((arrS Z n1 6 (wdA Z) ++ arrS Z n2 6 (wdB Z)) ++ arrS Z n3 5 (wdC Z)) ++ wSo Z n11 y8 (nI (((((((([] : List Nat) ++ cTx 33) ++ txN n fu (kdA q)) ++ cTx 32) ++ cTx 21) ++ cTx 33) ++ txN n fu (kdB q)) ++ cTx 32).length)) ++ arrB Z y8 c8 b8) ++ wPl Z L) (by simp only [List.append_assoc, List.append_nil, List.nil_append]) ?_
          refine J_room (rc2 := 2 + (6 + 0 * tcN fu)) (rs2 := 2004 + (945 + 0 * tsN fu)) (by omega) (by omega) ?_
          refine J_cVb (As := []) (st := []) (rc2 := 6 + 0 * tcN fu) (rs2 := 945 + 0 * tsN fu) (w0 := ((wSo Z n11 y8 (nI (((((((([] : List Nat) ++ cTx 33) ++ txN n fu (kdA q)) ++ cTx 32) ++ cTx 21) ++ cTx 33) ++ txN n fu (kdB q)) ++ cTx 32).length)) ++ arrB Z y8 c8 b8)) (q0 := 0) C iX10_text_296 lm_X10_103 yc_J4_toString_0e30d yv_J4_toString_0e30d (c_J4_toString_0e30d (T := (((((((([] : List Nat) ++ cTx 33) ++ txN n fu (kdA q)) ++ cTx 32) ++ cTx 21) ++ cTx 33) ++ txN n fu (kdB q)) ++ cTx 32)) h8 (by simp only [List.length_append, List.length_nil] at hl9 ⊢; omega)) rfl rfl rfl ((arrS Z n1 6 (wdA Z) ++ arrS Z n2 6 (wdB Z)) ++ arrS Z n3 5 (wdC Z)) (wPl Z L) (by simp only [List.append_assoc, List.append_nil, List.nil_append]) rfl (rmT_m (by decide) (by decide)) (Nat.le_of_ble_eq_true rfl) rfl rfl ?_
          rintro _ _ ⟨s9, t9, b9, rfl, rfl, h9⟩
          refine J_st (.ref s9 :: []) rfl ?_
          refine J_ws (((((((arrS Z n1 6 (wdA Z) ++ arrS Z n2 6 (wdB Z)) ++ arrS Z n3 5 (wdC Z)) ++ wTo Z s9 t9) ++ wSo Z n11 y8 (nI (((((((([] : List Nat) ++ cTx 33) ++ txN n fu (kdA q)) ++ cTx 32) ++ cTx 21) ++ cTx 33) ++ txN n fu (kdB q)) ++ cTx 32).length)) ++ arrB Z y8 c8 b8) ++ arrB Z t9 ((((((((([] : List Nat) ++ cTx 33) ++ txN n fu (kdA q)) ++ cTx 32) ++ cTx 21) ++ cTx 33) ++ txN n fu (kdB q)) ++ cTx 32).length) b9) ++ wPl Z L) (by simp only [List.append_assoc, List.append_nil, List.nil_append]) ?_
          refine J_drop [] ((arrS Z n1 6 (wdA Z) ++ arrS Z n2 6 (wdB Z)) ++ arrS Z n3 5 (wdC Z)) ((((wTo Z s9 t9 ++ wSo Z n11 y8 (nI (((((((([] : List Nat) ++ cTx 33) ++ txN n fu (kdA q)) ++ cTx 32) ++ cTx 21) ++ cTx 33) ++ txN n fu (kdB q)) ++ cTx 32).length)) ++ arrB Z y8 c8 b8) ++ arrB Z t9 ((((((((([] : List Nat) ++ cTx 33) ++ txN n fu (kdA q)) ++ cTx 32) ++ cTx 21) ++ cTx 33) ++ txN n fu (kdB q)) ++ cTx 32).length) b9) ++ wPl Z L) (by simp only [List.append_assoc, List.append_nil, List.nil_append]) ?_
          refine J_ws ((((wTo Z s9 t9 ++ wSo Z n11 y8 (nI (((((((([] : List Nat) ++ cTx 33) ++ txN n fu (kdA q)) ++ cTx 32) ++ cTx 21) ++ cTx 33) ++ txN n fu (kdB q)) ++ cTx 32).length)) ++ arrB Z y8 c8 b8) ++ arrB Z t9 ((((((((([] : List Nat) ++ cTx 33) ++ txN n fu (kdA q)) ++ cTx 32) ++ cTx 21) ++ cTx 33) ++ txN n fu (kdB q)) ++ cTx 32).length) b9) ++ wPl Z L) (by simp only [List.append_assoc, List.append_nil, List.nil_append]) ?_
          refine J_drop (wTo Z s9 t9) ((wSo Z n11 y8 (nI (((((((([] : List Nat) ++ cTx 33) ++ txN n fu (kdA q)) ++ cTx 32) ++ cTx 21) ++ cTx 33) ++ txN n fu (kdB q)) ++ cTx 32).length)) ++ arrB Z y8 c8 b8) ((arrB Z t9 ((((((((([] : List Nat) ++ cTx 33) ++ txN n fu (kdA q)) ++ cTx 32) ++ cTx 21) ++ cTx 33) ++ txN n fu (kdB q)) ++ cTx 32).length) b9) ++ wPl Z L) (by simp only [List.append_assoc, List.append_nil, List.nil_append]) ?_
          refine J_ws ((wTo Z s9 t9 ++ arrB Z t9 ((((((((([] : List Nat) ++ cTx 33) ++ txN n fu (kdA q)) ++ cTx 32) ++ cTx 21) ++ cTx 33) ++ txN n fu (kdB q)) ++ cTx 32).length) b9) ++ wPl Z L) (by simp only [List.append_assoc, List.append_nil, List.nil_append]) ?_
          refine J_perm ((wTo Z s9 t9 ++ wPl Z L) ++ arrB Z t9 ((((((((([] : List Nat) ++ cTx 33) ++ txN n fu (kdA q)) ++ cTx 32) ++ cTx 21) ++ cTx 33) ++ txN n fu (kdB q)) ++ cTx 32).length) b9) (sw2 _ _ _) ?_
          refine J_perm ((wPl Z L ++ wTo Z s9 t9) ++ arrB Z t9 ((((((((([] : List Nat) ++ cTx 33) ++ txN n fu (kdA q)) ++ cTx 32) ++ cTx 21) ++ cTx 33) ++ txN n fu (kdB q)) ++ cTx 32).length) b9) (List.perm_append_comm.append_right _) ?_
          exact J_aret C E iX10_text_299 (Or.inl ⟨_, rfl⟩) (Or.inr ⟨s9, _, _, rfl, rfl, h9⟩)
        · refine J_room (rc2 := (tcN fu) + (10 + 0 * tcN fu)) (rs2 := (tsN fu) + (10953 + 0 * tsN fu)) (by omega) (by omega) ?_
          obtain ⟨j1_, e1_, f1_⟩ := InT.at hxb
          refine J_cVb (As := []) (st := .ref n11 :: []) (rc2 := 10 + 0 * tcN fu) (rs2 := 10953 + 0 * tsN fu) (w0 := wPl Z L) (q0 := j1_) C iX10_text_285 lm_X10_111 yc_X10_text yv_X10_text (ih (q := kdB q) hxb (by simp only [List.length_append] at hl9; omega)) rfl rfl (wPl_at f1_) ((((arrS Z n1 6 (wdA Z) ++ arrS Z n2 6 (wdB Z)) ++ arrS Z n3 5 (wdC Z)) ++ wSo Z n11 y6 (nI (((((([] : List Nat) ++ cTx 33) ++ txN n fu (kdA q)) ++ cTx 32) ++ cTx 21) ++ cTx 33).length)) ++ arrB Z y6 c6 b6) [] (by simp only [List.append_assoc, List.append_nil, List.nil_append]) rfl (rmT_le (by omega) (by decide)) (Nat.le_of_ble_eq_true rfl) rfl rfl ?_
          rintro _ _ (⟨j7, hj7, rfl, rfl, e7⟩ | ⟨s7, t7, b7, rfl, rfl, e7⟩)
          · refine J_st (.ref (zsk Z j7) :: .ref n11 :: []) rfl ?_
            refine J_ws (((((arrS Z n1 6 (wdA Z) ++ arrS Z n2 6 (wdB Z)) ++ arrS Z n3 5 (wdC Z)) ++ wSo Z n11 y6 (nI (((((([] : List Nat) ++ cTx 33) ++ txN n fu (kdA q)) ++ cTx 32) ++ cTx 21) ++ cTx 33).length)) ++ arrB Z y6 c6 b6) ++ wPl Z L) (by simp only [List.append_assoc, List.append_nil, List.nil_append]) ?_
            refine J_room (rc2 := 1 + (9 + 0 * tcN fu)) (rs2 := 4002 + (6951 + 0 * tsN fu)) (by omega) (by omega) ?_
            refine J_cVb (As := [.ref (zsk Z j7)]) (st := []) (rc2 := 9 + 0 * tcN fu) (rs2 := 6951 + 0 * tsN fu) (w0 := ((wSo Z n11 y6 (nI (((((([] : List Nat) ++ cTx 33) ++ txN n fu (kdA q)) ++ cTx 32) ++ cTx 21) ++ cTx 33).length)) ++ arrB Z y6 c6 b6)) (q0 := 0) C iX10_text_288 lm_X10_96 yc_J4_append_15ec4 yv_J4_append_15ec4 (c_J4_append_C (T := (((((([] : List Nat) ++ cTx 33) ++ txN n fu (kdA q)) ++ cTx 32) ++ cTx 21) ++ cTx 33)) (i := j7) h6 hj7 (by rw [← e7]; simp only [List.length_append, List.length_nil] at hl9 ⊢; omega)) rfl rfl rfl ((arrS Z n1 6 (wdA Z) ++ arrS Z n2 6 (wdB Z)) ++ arrS Z n3 5 (wdC Z)) (wPl Z L) (by simp only [List.append_assoc, List.append_nil, List.nil_append]) rfl (rmT_m (by decide) (by decide)) (Nat.le_of_ble_eq_true rfl) rfl rfl ?_
            rintro _ _ ⟨rfl, y10, c10, b10, rfl, h10⟩
            refine J_st (.ref n11 :: []) rfl ?_
            refine J_ws (((((arrS Z n1 6 (wdA Z) ++ arrS Z n2 6 (wdB Z)) ++ arrS Z n3 5 (wdC Z)) ++ wSo Z n11 y10 (nI ((((((([] : List Nat) ++ cTx 33) ++ txN n fu (kdA q)) ++ cTx 32) ++ cTx 21) ++ cTx 33) ++ cTx j7).length)) ++ arrB Z y10 c10 b10) ++ wPl Z L) (by simp only [List.append_assoc, List.append_nil, List.nil_append]) ?_
            rw [← e7]
            exact hk291_7 (y10, c10, b10) (by rw [e7]; exact h10)
          · refine J_st (.ref s7 :: .ref n11 :: []) rfl ?_
            refine J_ws (((((((arrS Z n1 6 (wdA Z) ++ arrS Z n2 6 (wdB Z)) ++ arrS Z n3 5 (wdC Z)) ++ wSo Z n11 y6 (nI (((((([] : List Nat) ++ cTx 33) ++ txN n fu (kdA q)) ++ cTx 32) ++ cTx 21) ++ cTx 33).length)) ++ arrB Z y6 c6 b6) ++ wPl Z L) ++ wTo Z s7 t7) ++ arrB Z t7 ((txN n fu (kdB q)).length) b7) (by simp only [List.append_assoc, List.append_nil, List.nil_append]) ?_
            refine J_perm (((((((arrS Z n1 6 (wdA Z) ++ arrS Z n2 6 (wdB Z)) ++ arrS Z n3 5 (wdC Z)) ++ wSo Z n11 y6 (nI (((((([] : List Nat) ++ cTx 33) ++ txN n fu (kdA q)) ++ cTx 32) ++ cTx 21) ++ cTx 33).length)) ++ arrB Z y6 c6 b6) ++ wTo Z s7 t7) ++ wPl Z L) ++ arrB Z t7 ((txN n fu (kdB q)).length) b7) ((sw2 _ _ _).append_right _) ?_
            refine J_perm (((((((arrS Z n1 6 (wdA Z) ++ arrS Z n2 6 (wdB Z)) ++ arrS Z n3 5 (wdC Z)) ++ wSo Z n11 y6 (nI (((((([] : List Nat) ++ cTx 33) ++ txN n fu (kdA q)) ++ cTx 32) ++ cTx 21) ++ cTx 33).length)) ++ arrB Z y6 c6 b6) ++ wTo Z s7 t7) ++ arrB Z t7 ((txN n fu (kdB q)).length) b7) ++ wPl Z L) (sw2 _ _ _) ?_
            refine J_room (rc2 := 1 + (9 + 0 * tcN fu)) (rs2 := 4002 + (6951 + 0 * tsN fu)) (by omega) (by omega) ?_
            refine J_cVb (As := [.ref s7]) (st := []) (rc2 := 9 + 0 * tcN fu) (rs2 := 6951 + 0 * tsN fu) (w0 := ((((wSo Z n11 y6 (nI (((((([] : List Nat) ++ cTx 33) ++ txN n fu (kdA q)) ++ cTx 32) ++ cTx 21) ++ cTx 33).length)) ++ arrB Z y6 c6 b6) ++ wTo Z s7 t7) ++ arrB Z t7 ((txN n fu (kdB q)).length) b7)) (q0 := 0) C iX10_text_288 lm_X10_96 yc_J4_append_15ec4 yv_J4_append_15ec4 (c_J4_append_D (T := (((((([] : List Nat) ++ cTx 33) ++ txN n fu (kdA q)) ++ cTx 32) ++ cTx 21) ++ cTx 33)) (S := txN n fu (kdB q)) h6 e7 (by simp only [List.length_append, List.length_nil] at hl9 ⊢; omega)) rfl rfl rfl ((arrS Z n1 6 (wdA Z) ++ arrS Z n2 6 (wdB Z)) ++ arrS Z n3 5 (wdC Z)) (wPl Z L) (by simp only [List.append_assoc, List.append_nil, List.nil_append]) rfl (rmT_m (by decide) (by decide)) (Nat.le_of_ble_eq_true rfl) rfl rfl ?_
            rintro _ _ ⟨rfl, y11, c11, b11, rfl, h11⟩
            refine J_st (.ref n11 :: []) rfl ?_
            refine J_ws (((((((arrS Z n1 6 (wdA Z) ++ arrS Z n2 6 (wdB Z)) ++ arrS Z n3 5 (wdC Z)) ++ wSo Z n11 y11 (nI ((((((([] : List Nat) ++ cTx 33) ++ txN n fu (kdA q)) ++ cTx 32) ++ cTx 21) ++ cTx 33) ++ txN n fu (kdB q)).length)) ++ arrB Z y11 c11 b11) ++ wTo Z s7 t7) ++ arrB Z t7 ((txN n fu (kdB q)).length) b7) ++ wPl Z L) (by simp only [List.append_assoc, List.append_nil, List.nil_append]) ?_
            refine J_drop ((((arrS Z n1 6 (wdA Z) ++ arrS Z n2 6 (wdB Z)) ++ arrS Z n3 5 (wdC Z)) ++ wSo Z n11 y11 (nI ((((((([] : List Nat) ++ cTx 33) ++ txN n fu (kdA q)) ++ cTx 32) ++ cTx 21) ++ cTx 33) ++ txN n fu (kdB q)).length)) ++ arrB Z y11 c11 b11) (wTo Z s7 t7 ++ arrB Z t7 ((txN n fu (kdB q)).length) b7) (wPl Z L) (by simp only [List.append_assoc, List.append_nil, List.nil_append]) ?_
            refine J_ws (((((arrS Z n1 6 (wdA Z) ++ arrS Z n2 6 (wdB Z)) ++ arrS Z n3 5 (wdC Z)) ++ wSo Z n11 y11 (nI ((((((([] : List Nat) ++ cTx 33) ++ txN n fu (kdA q)) ++ cTx 32) ++ cTx 21) ++ cTx 33) ++ txN n fu (kdB q)).length)) ++ arrB Z y11 c11 b11) ++ wPl Z L) (by simp only [List.append_assoc, List.append_nil, List.nil_append]) ?_
            exact hk291_7 (y11, c11, b11) h11
      · refine J_room (rc2 := (tcN fu) + (14 + 1 * tcN fu)) (rs2 := (tsN fu) + (26961 + 1 * tsN fu)) (by omega) (by omega) ?_
        obtain ⟨j2_, e2_, f2_⟩ := InT.at hxa
        refine J_cVb (As := []) (st := .ref n11 :: []) (rc2 := 14 + 1 * tcN fu) (rs2 := 26961 + 1 * tsN fu) (w0 := wPl Z L) (q0 := j2_) C iX10_text_253 lm_X10_111 yc_X10_text yv_X10_text (ih (q := kdA q) hxa (by simp only [List.length_append] at hl9; omega)) rfl rfl (wPl_at f2_) ((((arrS Z n1 6 (wdA Z) ++ arrS Z n2 6 (wdB Z)) ++ arrS Z n3 5 (wdC Z)) ++ wSo Z n11 y2 (nI (([] : List Nat) ++ cTx 33).length)) ++ arrB Z y2 c2 b2) [] (by simp only [List.append_assoc, List.append_nil, List.nil_append]) rfl (rmT_le (by omega) (by decide)) (Nat.le_of_ble_eq_true rfl) rfl rfl ?_
        rintro _ _ (⟨j3, hj3, rfl, rfl, e3⟩ | ⟨s3, t3, b3, rfl, rfl, e3⟩)
        · refine J_st (.ref (zsk Z j3) :: .ref n11 :: []) rfl ?_
          refine J_ws (((((arrS Z n1 6 (wdA Z) ++ arrS Z n2 6 (wdB Z)) ++ arrS Z n3 5 (wdC Z)) ++ wSo Z n11 y2 (nI (([] : List Nat) ++ cTx 33).length)) ++ arrB Z y2 c2 b2) ++ wPl Z L) (by simp only [List.append_assoc, List.append_nil, List.nil_append]) ?_
          refine J_room (rc2 := 1 + (13 + 1 * tcN fu)) (rs2 := 4002 + (22959 + 1 * tsN fu)) (by omega) (by omega) ?_
          refine J_cVb (As := [.ref (zsk Z j3)]) (st := []) (rc2 := 13 + 1 * tcN fu) (rs2 := 22959 + 1 * tsN fu) (w0 := ((wSo Z n11 y2 (nI (([] : List Nat) ++ cTx 33).length)) ++ arrB Z y2 c2 b2)) (q0 := 0) C iX10_text_256 lm_X10_96 yc_J4_append_15ec4 yv_J4_append_15ec4 (c_J4_append_C (T := (([] : List Nat) ++ cTx 33)) (i := j3) h2 hj3 (by rw [← e3]; simp only [List.length_append, List.length_nil] at hl9 ⊢; omega)) rfl rfl rfl ((arrS Z n1 6 (wdA Z) ++ arrS Z n2 6 (wdB Z)) ++ arrS Z n3 5 (wdC Z)) (wPl Z L) (by simp only [List.append_assoc, List.append_nil, List.nil_append]) rfl (rmT_m (by decide) (by decide)) (Nat.le_of_ble_eq_true rfl) rfl rfl ?_
          rintro _ _ ⟨rfl, y12, c12, b12, rfl, h12⟩
          refine J_st (.ref n11 :: []) rfl ?_
          refine J_ws (((((arrS Z n1 6 (wdA Z) ++ arrS Z n2 6 (wdB Z)) ++ arrS Z n3 5 (wdC Z)) ++ wSo Z n11 y12 (nI ((([] : List Nat) ++ cTx 33) ++ cTx j3).length)) ++ arrB Z y12 c12 b12) ++ wPl Z L) (by simp only [List.append_assoc, List.append_nil, List.nil_append]) ?_
          rw [← e3]
          exact hk259_3 (y12, c12, b12) (by rw [e3]; exact h12)
        · refine J_st (.ref s3 :: .ref n11 :: []) rfl ?_
          refine J_ws (((((((arrS Z n1 6 (wdA Z) ++ arrS Z n2 6 (wdB Z)) ++ arrS Z n3 5 (wdC Z)) ++ wSo Z n11 y2 (nI (([] : List Nat) ++ cTx 33).length)) ++ arrB Z y2 c2 b2) ++ wPl Z L) ++ wTo Z s3 t3) ++ arrB Z t3 ((txN n fu (kdA q)).length) b3) (by simp only [List.append_assoc, List.append_nil, List.nil_append]) ?_
          refine J_perm (((((((arrS Z n1 6 (wdA Z) ++ arrS Z n2 6 (wdB Z)) ++ arrS Z n3 5 (wdC Z)) ++ wSo Z n11 y2 (nI (([] : List Nat) ++ cTx 33).length)) ++ arrB Z y2 c2 b2) ++ wTo Z s3 t3) ++ wPl Z L) ++ arrB Z t3 ((txN n fu (kdA q)).length) b3) ((sw2 _ _ _).append_right _) ?_
          refine J_perm (((((((arrS Z n1 6 (wdA Z) ++ arrS Z n2 6 (wdB Z)) ++ arrS Z n3 5 (wdC Z)) ++ wSo Z n11 y2 (nI (([] : List Nat) ++ cTx 33).length)) ++ arrB Z y2 c2 b2) ++ wTo Z s3 t3) ++ arrB Z t3 ((txN n fu (kdA q)).length) b3) ++ wPl Z L) (sw2 _ _ _) ?_
          refine J_room (rc2 := 1 + (13 + 1 * tcN fu)) (rs2 := 4002 + (22959 + 1 * tsN fu)) (by omega) (by omega) ?_
          refine J_cVb (As := [.ref s3]) (st := []) (rc2 := 13 + 1 * tcN fu) (rs2 := 22959 + 1 * tsN fu) (w0 := ((((wSo Z n11 y2 (nI (([] : List Nat) ++ cTx 33).length)) ++ arrB Z y2 c2 b2) ++ wTo Z s3 t3) ++ arrB Z t3 ((txN n fu (kdA q)).length) b3)) (q0 := 0) C iX10_text_256 lm_X10_96 yc_J4_append_15ec4 yv_J4_append_15ec4 (c_J4_append_D (T := (([] : List Nat) ++ cTx 33)) (S := txN n fu (kdA q)) h2 e3 (by simp only [List.length_append, List.length_nil] at hl9 ⊢; omega)) rfl rfl rfl ((arrS Z n1 6 (wdA Z) ++ arrS Z n2 6 (wdB Z)) ++ arrS Z n3 5 (wdC Z)) (wPl Z L) (by simp only [List.append_assoc, List.append_nil, List.nil_append]) rfl (rmT_m (by decide) (by decide)) (Nat.le_of_ble_eq_true rfl) rfl rfl ?_
          rintro _ _ ⟨rfl, y13, c13, b13, rfl, h13⟩
          refine J_st (.ref n11 :: []) rfl ?_
          refine J_ws (((((((arrS Z n1 6 (wdA Z) ++ arrS Z n2 6 (wdB Z)) ++ arrS Z n3 5 (wdC Z)) ++ wSo Z n11 y13 (nI ((([] : List Nat) ++ cTx 33) ++ txN n fu (kdA q)).length)) ++ arrB Z y13 c13 b13) ++ wTo Z s3 t3) ++ arrB Z t3 ((txN n fu (kdA q)).length) b3) ++ wPl Z L) (by simp only [List.append_assoc, List.append_nil, List.nil_append]) ?_
          refine J_drop ((((arrS Z n1 6 (wdA Z) ++ arrS Z n2 6 (wdB Z)) ++ arrS Z n3 5 (wdC Z)) ++ wSo Z n11 y13 (nI ((([] : List Nat) ++ cTx 33) ++ txN n fu (kdA q)).length)) ++ arrB Z y13 c13 b13) (wTo Z s3 t3 ++ arrB Z t3 ((txN n fu (kdA q)).length) b3) (wPl Z L) (by simp only [List.append_assoc, List.append_nil, List.nil_append]) ?_
          refine J_ws (((((arrS Z n1 6 (wdA Z) ++ arrS Z n2 6 (wdB Z)) ++ arrS Z n3 5 (wdC Z)) ++ wSo Z n11 y13 (nI ((([] : List Nat) ++ cTx 33) ++ txN n fu (kdA q)).length)) ++ arrB Z y13 c13 b13) ++ wPl Z L) (by simp only [List.append_assoc, List.append_nil, List.nil_append]) ?_
          exact hk259_3 (y13, c13, b13) h13
    · rw [hk] at hi9 hbA hbB
      obtain ⟨xa, rfl, hxa⟩ := hbA rfl
      obtain ⟨xb, rfl, hxb⟩ := hbB rfl
      have htx : txN n (fu + 1) q = (((((((([] : List Nat) ++ cTx 33) ++ (txN n fu (kdA q))) ++ cTx 32) ++ cTx 22) ++ cTx 33) ++ (txN n fu (kdB q))) ++ cTx 32) := by rw [txN, tx1, if_neg (by omega), if_neg (by omega), if_neg (by omega), if_neg (by omega), if_neg (by omega), if_neg (by omega), if_neg (by omega), if_neg (by omega), if_neg (by omega), if_neg (by omega), if_pos hk]
      rw [htx] at hl9 ⊢
      refine J_aload_n C iX10_text_102 rfl rfl ?_
      refine J_get (.int 10) ((((arrS Z n1 6 (wdA Z) ++ arrS Z n2 6 (wdB Z)) ++ arrS Z n3 5 (wdC Z))).length + i) C iX10_text_103 gf_X10_7 (mid_at (A := ((arrS Z n1 6 (wdA Z) ++ arrS Z n2 6 (wdB Z)) ++ arrS Z n3 5 (wdC Z))) (M := wPl Z L) (B := []) (by simp only [List.append_assoc, List.append_nil, List.nil_append]) (wPl_at hi9)) rfl ?_
      refine J_ifne 132 C iX10_text_106 rfl (fun h106 => ?_) (fun h106 => absurd h106 (by decide))
      refine J_aload_n C iX10_text_132 rfl rfl ?_
      refine J_get (.int 10) ((((arrS Z n1 6 (wdA Z) ++ arrS Z n2 6 (wdB Z)) ++ arrS Z n3 5 (wdC Z))).length + i) C iX10_text_133 gf_X10_7 (mid_at (A := ((arrS Z n1 6 (wdA Z) ++ arrS Z n2 6 (wdB Z)) ++ arrS Z n3 5 (wdC Z))) (M := wPl Z L) (B := []) (by simp only [List.append_assoc, List.append_nil, List.nil_append]) (wPl_at hi9)) rfl ?_
      refine J_iconst 3 C iX10_text_136 rfl ?_
      refine J_icmpge 147 C iX10_text_137 rfl (fun h137 => ?_) (fun h137 => absurd (by decide) h137)
      refine J_aload_n C iX10_text_147 rfl rfl ?_
      refine J_get (.int 10) ((((arrS Z n1 6 (wdA Z) ++ arrS Z n2 6 (wdB Z)) ++ arrS Z n3 5 (wdC Z))).length + i) C iX10_text_148 gf_X10_7 (mid_at (A := ((arrS Z n1 6 (wdA Z) ++ arrS Z n2 6 (wdB Z)) ++ arrS Z n3 5 (wdC Z))) (M := wPl Z L) (B := []) (by simp only [List.append_assoc, List.append_nil, List.nil_append]) (wPl_at hi9)) rfl ?_
      refine J_bipush 6 C iX10_text_151 rfl ?_
      refine J_icmpge 188 C iX10_text_153 rfl (fun h153 => ?_) (fun h153 => absurd (by decide) h153)
      refine J_aload_n C iX10_text_188 rfl rfl ?_
      refine J_get (.int 10) ((((arrS Z n1 6 (wdA Z) ++ arrS Z n2 6 (wdB Z)) ++ arrS Z n3 5 (wdC Z))).length + i) C iX10_text_189 gf_X10_7 (mid_at (A := ((arrS Z n1 6 (wdA Z) ++ arrS Z n2 6 (wdB Z)) ++ arrS Z n3 5 (wdC Z))) (M := wPl Z L) (B := []) (by simp only [List.append_assoc, List.append_nil, List.nil_append]) (wPl_at hi9)) rfl ?_
      refine J_bipush 6 C iX10_text_192 rfl ?_
      refine J_icmpne 228 C iX10_text_194 rfl (fun h194 => ?_) (fun h194 => absurd h194 (by decide))
      refine J_aload_n C iX10_text_228 rfl rfl ?_
      refine J_get (.int 10) ((((arrS Z n1 6 (wdA Z) ++ arrS Z n2 6 (wdB Z)) ++ arrS Z n3 5 (wdC Z))).length + i) C iX10_text_229 gf_X10_7 (mid_at (A := ((arrS Z n1 6 (wdA Z) ++ arrS Z n2 6 (wdB Z)) ++ arrS Z n3 5 (wdC Z))) (M := wPl Z L) (B := []) (by simp only [List.append_assoc, List.append_nil, List.nil_append]) (wPl_at hi9)) rfl ?_
      refine J_bipush 11 C iX10_text_232 rfl ?_
      refine J_icmpge 300 C iX10_text_234 rfl (fun h234 => absurd h234 (by decide)) (fun h234 => ?_)
      refine J_room (rc2 := 1 + (16 + 2 * tcN fu)) (rs2 := 4 + (30979 + 2 * tsN fu)) (by omega) (by omega) ?_
      refine J_new (ci := 11) [.null, .int 0, .int 0, .int 0] tyJ4 C iX10_text_237 rfl lay_J4 tyJ4_ok (tsg_in (i := 1410) (by decide +kernel) rfl) (tsg_in (i := 1411) (by decide +kernel) rfl) (tsg_in (i := 45) (by decide +kernel) rfl) df_J4 (fun n12 => ?_)
      refine J_ws ((((arrS Z n1 6 (wdA Z) ++ arrS Z n2 6 (wdB Z)) ++ arrS Z n3 5 (wdC Z)) ++ wPl Z L) ++ wS0 Z n12) rfl ?_
      refine J_perm ((((arrS Z n1 6 (wdA Z) ++ arrS Z n2 6 (wdB Z)) ++ arrS Z n3 5 (wdC Z)) ++ wS0 Z n12) ++ wPl Z L) (sw2 _ _ _) ?_
      refine J_dup C iX10_text_240 rfl ?_
      refine J_room (rc2 := 1 + (15 + 2 * tcN fu)) (rs2 := 16 + (30963 + 2 * tsN fu)) (by omega) (by omega) ?_
      refine J_cIb (As := []) (st := .ref n12 :: []) (rc2 := 15 + 2 * tcN fu) (rs2 := 30963 + 2 * tsN fu) (w0 := (wS0 Z n12)) C iX10_text_241 lm_X10_95 yc_J4_init_da8c8 yi_J4_init_da8c8 c_J4_init_da8c8 ((arrS Z n1 6 (wdA Z) ++ arrS Z n2 6 (wdB Z)) ++ arrS Z n3 5 (wdC Z)) (wPl Z L) (by simp only [List.append_assoc, List.append_nil, List.nil_append]) rfl (rmT_m (by decide) (by decide)) (Nat.le_of_ble_eq_true rfl) rfl rfl ?_
      rintro _ _ ⟨rfl, q1, rfl⟩
      refine J_st (.ref n12 :: []) rfl ?_
      refine J_ws (((((arrS Z n1 6 (wdA Z) ++ arrS Z n2 6 (wdB Z)) ++ arrS Z n3 5 (wdC Z)) ++ wSo Z n12 q1 0) ++ arrB Z q1 16 (fun _ => 0)) ++ wPl Z L) (by simp only [List.append_assoc, List.append_nil, List.nil_append]) ?_
      refine J_ldcS 33 C iX10_text_244 rfl ?_
      refine J_room (rc2 := 1 + (14 + 2 * tcN fu)) (rs2 := 4002 + (26961 + 2 * tsN fu)) (by omega) (by omega) ?_
      refine J_cVb (As := [.ref (zsk Z 33)]) (st := []) (rc2 := 14 + 2 * tcN fu) (rs2 := 26961 + 2 * tsN fu) (w0 := (wSo Z n12 q1 0 ++ arrB Z q1 16 (fun _ => 0))) (q0 := 0) C iX10_text_246 lm_X10_96 yc_J4_append_15ec4 yv_J4_append_15ec4 (c_J4_append_C (T := ([] : List Nat)) (i := 33) sb_new (by decide) (by simp only [List.length_append, List.length_nil] at hl9 ⊢; omega)) rfl rfl rfl ((arrS Z n1 6 (wdA Z) ++ arrS Z n2 6 (wdB Z)) ++ arrS Z n3 5 (wdC Z)) (wPl Z L) (by simp only [List.append_assoc, List.append_nil, List.nil_append]) rfl (rmT_m (by decide) (by decide)) (Nat.le_of_ble_eq_true rfl) rfl rfl ?_
      rintro _ _ ⟨rfl, y2, c2, b2, rfl, h2⟩
      refine J_st (.ref n12 :: []) rfl ?_
      refine J_ws (((((arrS Z n1 6 (wdA Z) ++ arrS Z n2 6 (wdB Z)) ++ arrS Z n3 5 (wdC Z)) ++ wSo Z n12 y2 (nI (([] : List Nat) ++ cTx 33).length)) ++ arrB Z y2 c2 b2) ++ wPl Z L) (by simp only [List.append_assoc, List.append_nil, List.nil_append]) ?_
      refine J_aload_n C iX10_text_249 rfl rfl ?_
      refine J_get (.ref xa) ((((((arrS Z n1 6 (wdA Z) ++ arrS Z n2 6 (wdB Z)) ++ arrS Z n3 5 (wdC Z)) ++ wSo Z n12 y2 (nI (([] : List Nat) ++ cTx 33).length)) ++ arrB Z y2 c2 b2)).length + i) C iX10_text_250 gf_X10_36 (mid_at (A := ((((arrS Z n1 6 (wdA Z) ++ arrS Z n2 6 (wdB Z)) ++ arrS Z n3 5 (wdC Z)) ++ wSo Z n12 y2 (nI (([] : List Nat) ++ cTx 33).length)) ++ arrB Z y2 c2 b2)) (M := wPl Z L) (B := []) (by simp only [List.append_assoc, List.append_nil, List.nil_append]) (wPl_at hi9)) rfl ?_
      refine J_alt (ι := Nat × Nat × (Nat → Int32)) (P := fun i9 => SbT ((([] : List Nat) ++ cTx 33) ++ txN n fu (kdA q)) i9.2.1 i9.2.2) (13 + 1 * tcN fu) (22959 + 1 * tsN fu) 259 (fun _ => [(3, .ref n3), (2, .ref n2), (1, .ref n1), (0, .ref a)]) (fun _ => .ref n12 :: []) (fun i9 => (((((arrS Z n1 6 (wdA Z) ++ arrS Z n2 6 (wdB Z)) ++ arrS Z n3 5 (wdC Z)) ++ wSo Z n12 i9.1 (nI ((([] : List Nat) ++ cTx 33) ++ txN n fu (kdA q)).length)) ++ arrB Z i9.1 i9.2.1 i9.2.2) ++ wPl Z L)) (fun i9 hi9_ => ?_) (fun hk259_3 => ?_)
      · obtain ⟨z3, k3, m3⟩ := i9
        have g3 : SbT ((([] : List Nat) ++ cTx 33) ++ txN n fu (kdA q)) k3 m3 := hi9_
        refine J_ws (((((arrS Z n1 6 (wdA Z) ++ arrS Z n2 6 (wdB Z)) ++ arrS Z n3 5 (wdC Z)) ++ wSo Z n12 z3 (nI ((([] : List Nat) ++ cTx 33) ++ txN n fu (kdA q)).length)) ++ arrB Z z3 k3 m3) ++ wPl Z L) rfl ?_
        refine J_ldcS 32 C iX10_text_259 rfl ?_
        refine J_room (rc2 := 1 + (12 + 1 * tcN fu)) (rs2 := 4002 + (18957 + 1 * tsN fu)) (by omega) (by omega) ?_
        refine J_cVb (As := [.ref (zsk Z 32)]) (st := []) (rc2 := 12 + 1 * tcN fu) (rs2 := 18957 + 1 * tsN fu) (w0 := ((wSo Z n12 z3 (nI ((([] : List Nat) ++ cTx 33) ++ txN n fu (kdA q)).length)) ++ arrB Z z3 k3 m3)) (q0 := 0) C iX10_text_261 lm_X10_96 yc_J4_append_15ec4 yv_J4_append_15ec4 (c_J4_append_C (T := ((([] : List Nat) ++ cTx 33) ++ txN n fu (kdA q))) (i := 32) g3 (by decide) (by simp only [List.length_append, List.length_nil] at hl9 ⊢; omega)) rfl rfl rfl ((arrS Z n1 6 (wdA Z) ++ arrS Z n2 6 (wdB Z)) ++ arrS Z n3 5 (wdC Z)) (wPl Z L) (by simp only [List.append_assoc, List.append_nil, List.nil_append]) rfl (rmT_m (by decide) (by decide)) (Nat.le_of_ble_eq_true rfl) rfl rfl ?_
        rintro _ _ ⟨rfl, y4, c4, b4, rfl, h4⟩
        refine J_st (.ref n12 :: []) rfl ?_
        refine J_ws (((((arrS Z n1 6 (wdA Z) ++ arrS Z n2 6 (wdB Z)) ++ arrS Z n3 5 (wdC Z)) ++ wSo Z n12 y4 (nI (((([] : List Nat) ++ cTx 33) ++ txN n fu (kdA q)) ++ cTx 32).length)) ++ arrB Z y4 c4 b4) ++ wPl Z L) (by simp only [List.append_assoc, List.append_nil, List.nil_append]) ?_
        refine J_aload_n C iX10_text_264 rfl rfl ?_
        refine J_aload_n C iX10_text_265 rfl rfl ?_
        refine J_get (.int 10) ((((((arrS Z n1 6 (wdA Z) ++ arrS Z n2 6 (wdB Z)) ++ arrS Z n3 5 (wdC Z)) ++ wSo Z n12 y4 (nI (((([] : List Nat) ++ cTx 33) ++ txN n fu (kdA q)) ++ cTx 32).length)) ++ arrB Z y4 c4 b4)).length + i) C iX10_text_266 gf_X10_7 (mid_at (A := ((((arrS Z n1 6 (wdA Z) ++ arrS Z n2 6 (wdB Z)) ++ arrS Z n3 5 (wdC Z)) ++ wSo Z n12 y4 (nI (((([] : List Nat) ++ cTx 33) ++ txN n fu (kdA q)) ++ cTx 32).length)) ++ arrB Z y4 c4 b4)) (M := wPl Z L) (B := []) (by simp only [List.append_assoc, List.append_nil, List.nil_append]) (wPl_at hi9)) rfl ?_
        refine J_bipush 7 C iX10_text_269 rfl ?_
        refine J_isub C iX10_text_271 ?_
        rw [show (10 - 7 : Int32) = 3 from rfl]
        refine J_aaldS 1 C iX10_text_272 rfl (vp_in_nI (n := 3) (by decide) (by decide)) ?_
        rw [show Int32.toNatClampNeg 3 = 3 from rfl]
        refine J_st (.ref (zsk Z 22) :: .ref n12 :: []) rfl ?_
        refine J_room (rc2 := 1 + (11 + 1 * tcN fu)) (rs2 := 4002 + (14955 + 1 * tsN fu)) (by omega) (by omega) ?_
        refine J_cVb (As := [.ref (zsk Z 22)]) (st := []) (rc2 := 11 + 1 * tcN fu) (rs2 := 14955 + 1 * tsN fu) (w0 := ((wSo Z n12 y4 (nI (((([] : List Nat) ++ cTx 33) ++ txN n fu (kdA q)) ++ cTx 32).length)) ++ arrB Z y4 c4 b4)) (q0 := 0) C iX10_text_273 lm_X10_96 yc_J4_append_15ec4 yv_J4_append_15ec4 (c_J4_append_C (T := (((([] : List Nat) ++ cTx 33) ++ txN n fu (kdA q)) ++ cTx 32)) (i := 22) h4 (by decide) (by simp only [List.length_append, List.length_nil] at hl9 ⊢; omega)) rfl rfl rfl ((arrS Z n1 6 (wdA Z) ++ arrS Z n2 6 (wdB Z)) ++ arrS Z n3 5 (wdC Z)) (wPl Z L) (by simp only [List.append_assoc, List.append_nil, List.nil_append]) rfl (rmT_m (by decide) (by decide)) (Nat.le_of_ble_eq_true rfl) rfl rfl ?_
        rintro _ _ ⟨rfl, y5, c5, b5, rfl, h5⟩
        refine J_st (.ref n12 :: []) rfl ?_
        refine J_ws (((((arrS Z n1 6 (wdA Z) ++ arrS Z n2 6 (wdB Z)) ++ arrS Z n3 5 (wdC Z)) ++ wSo Z n12 y5 (nI ((((([] : List Nat) ++ cTx 33) ++ txN n fu (kdA q)) ++ cTx 32) ++ cTx 22).length)) ++ arrB Z y5 c5 b5) ++ wPl Z L) (by simp only [List.append_assoc, List.append_nil, List.nil_append]) ?_
        refine J_ldcS 33 C iX10_text_276 rfl ?_
        refine J_room (rc2 := 1 + (10 + 1 * tcN fu)) (rs2 := 4002 + (10953 + 1 * tsN fu)) (by omega) (by omega) ?_
        refine J_cVb (As := [.ref (zsk Z 33)]) (st := []) (rc2 := 10 + 1 * tcN fu) (rs2 := 10953 + 1 * tsN fu) (w0 := ((wSo Z n12 y5 (nI ((((([] : List Nat) ++ cTx 33) ++ txN n fu (kdA q)) ++ cTx 32) ++ cTx 22).length)) ++ arrB Z y5 c5 b5)) (q0 := 0) C iX10_text_278 lm_X10_96 yc_J4_append_15ec4 yv_J4_append_15ec4 (c_J4_append_C (T := ((((([] : List Nat) ++ cTx 33) ++ txN n fu (kdA q)) ++ cTx 32) ++ cTx 22)) (i := 33) h5 (by decide) (by simp only [List.length_append, List.length_nil] at hl9 ⊢; omega)) rfl rfl rfl ((arrS Z n1 6 (wdA Z) ++ arrS Z n2 6 (wdB Z)) ++ arrS Z n3 5 (wdC Z)) (wPl Z L) (by simp only [List.append_assoc, List.append_nil, List.nil_append]) rfl (rmT_m (by decide) (by decide)) (Nat.le_of_ble_eq_true rfl) rfl rfl ?_
        rintro _ _ ⟨rfl, y6, c6, b6, rfl, h6⟩
        refine J_st (.ref n12 :: []) rfl ?_
        refine J_ws (((((arrS Z n1 6 (wdA Z) ++ arrS Z n2 6 (wdB Z)) ++ arrS Z n3 5 (wdC Z)) ++ wSo Z n12 y6 (nI (((((([] : List Nat) ++ cTx 33) ++ txN n fu (kdA q)) ++ cTx 32) ++ cTx 22) ++ cTx 33).length)) ++ arrB Z y6 c6 b6) ++ wPl Z L) (by simp only [List.append_assoc, List.append_nil, List.nil_append]) ?_
        refine J_aload_n C iX10_text_281 rfl rfl ?_
        refine J_get (.ref xb) ((((((arrS Z n1 6 (wdA Z) ++ arrS Z n2 6 (wdB Z)) ++ arrS Z n3 5 (wdC Z)) ++ wSo Z n12 y6 (nI (((((([] : List Nat) ++ cTx 33) ++ txN n fu (kdA q)) ++ cTx 32) ++ cTx 22) ++ cTx 33).length)) ++ arrB Z y6 c6 b6)).length + i) C iX10_text_282 gf_X10_51 (mid_at (A := ((((arrS Z n1 6 (wdA Z) ++ arrS Z n2 6 (wdB Z)) ++ arrS Z n3 5 (wdC Z)) ++ wSo Z n12 y6 (nI (((((([] : List Nat) ++ cTx 33) ++ txN n fu (kdA q)) ++ cTx 32) ++ cTx 22) ++ cTx 33).length)) ++ arrB Z y6 c6 b6)) (M := wPl Z L) (B := []) (by simp only [List.append_assoc, List.append_nil, List.nil_append]) (wPl_at hi9)) rfl ?_
        refine J_alt (ι := Nat × Nat × (Nat → Int32)) (P := fun i9 => SbT ((((((([] : List Nat) ++ cTx 33) ++ txN n fu (kdA q)) ++ cTx 32) ++ cTx 22) ++ cTx 33) ++ txN n fu (kdB q)) i9.2.1 i9.2.2) (9 + 0 * tcN fu) (6951 + 0 * tsN fu) 291 (fun _ => [(3, .ref n3), (2, .ref n2), (1, .ref n1), (0, .ref a)]) (fun _ => .ref n12 :: []) (fun i9 => (((((arrS Z n1 6 (wdA Z) ++ arrS Z n2 6 (wdB Z)) ++ arrS Z n3 5 (wdC Z)) ++ wSo Z n12 i9.1 (nI ((((((([] : List Nat) ++ cTx 33) ++ txN n fu (kdA q)) ++ cTx 32) ++ cTx 22) ++ cTx 33) ++ txN n fu (kdB q)).length)) ++ arrB Z i9.1 i9.2.1 i9.2.2) ++ wPl Z L)) (fun i9 hi9_ => ?_) (fun hk291_7 => ?_)
        · obtain ⟨z7, k7, m7⟩ := i9
          have g7 : SbT ((((((([] : List Nat) ++ cTx 33) ++ txN n fu (kdA q)) ++ cTx 32) ++ cTx 22) ++ cTx 33) ++ txN n fu (kdB q)) k7 m7 := hi9_
          refine J_ws (((((arrS Z n1 6 (wdA Z) ++ arrS Z n2 6 (wdB Z)) ++ arrS Z n3 5 (wdC Z)) ++ wSo Z n12 z7 (nI ((((((([] : List Nat) ++ cTx 33) ++ txN n fu (kdA q)) ++ cTx 32) ++ cTx 22) ++ cTx 33) ++ txN n fu (kdB q)).length)) ++ arrB Z z7 k7 m7) ++ wPl Z L) rfl ?_
          refine J_ldcS 32 C iX10_text_291 rfl ?_
          refine J_room (rc2 := 1 + (8 + 0 * tcN fu)) (rs2 := 4002 + (2949 + 0 * tsN fu)) (by omega) (by omega) ?_
          refine J_cVb (As := [.ref (zsk Z 32)]) (st := []) (rc2 := 8 + 0 * tcN fu) (rs2 := 2949 + 0 * tsN fu) (w0 := ((wSo Z n12 z7 (nI ((((((([] : List Nat) ++ cTx 33) ++ txN n fu (kdA q)) ++ cTx 32) ++ cTx 22) ++ cTx 33) ++ txN n fu (kdB q)).length)) ++ arrB Z z7 k7 m7)) (q0 := 0) C iX10_text_293 lm_X10_96 yc_J4_append_15ec4 yv_J4_append_15ec4 (c_J4_append_C (T := ((((((([] : List Nat) ++ cTx 33) ++ txN n fu (kdA q)) ++ cTx 32) ++ cTx 22) ++ cTx 33) ++ txN n fu (kdB q))) (i := 32) g7 (by decide) (by simp only [List.length_append, List.length_nil] at hl9 ⊢; omega)) rfl rfl rfl ((arrS Z n1 6 (wdA Z) ++ arrS Z n2 6 (wdB Z)) ++ arrS Z n3 5 (wdC Z)) (wPl Z L) (by simp only [List.append_assoc, List.append_nil, List.nil_append]) rfl (rmT_m (by decide) (by decide)) (Nat.le_of_ble_eq_true rfl) rfl rfl ?_
          rintro _ _ ⟨rfl, y8, c8, b8, rfl, h8⟩
          refine J_st (.ref n12 :: []) rfl ?_
          refine J_ws (((((arrS Z n1 6 (wdA Z) ++ arrS Z n2 6 (wdB Z)) ++ arrS Z n3 5 (wdC Z)) ++ wSo Z n12 y8 (nI (((((((([] : List Nat) ++ cTx 33) ++ txN n fu (kdA q)) ++ cTx 32) ++ cTx 22) ++ cTx 33) ++ txN n fu (kdB q)) ++ cTx 32).length)) ++ arrB Z y8 c8 b8) ++ wPl Z L) (by simp only [List.append_assoc, List.append_nil, List.nil_append]) ?_
          refine J_room (rc2 := 2 + (6 + 0 * tcN fu)) (rs2 := 2004 + (945 + 0 * tsN fu)) (by omega) (by omega) ?_
          refine J_cVb (As := []) (st := []) (rc2 := 6 + 0 * tcN fu) (rs2 := 945 + 0 * tsN fu) (w0 := ((wSo Z n12 y8 (nI (((((((([] : List Nat) ++ cTx 33) ++ txN n fu (kdA q)) ++ cTx 32) ++ cTx 22) ++ cTx 33) ++ txN n fu (kdB q)) ++ cTx 32).length)) ++ arrB Z y8 c8 b8)) (q0 := 0) C iX10_text_296 lm_X10_103 yc_J4_toString_0e30d yv_J4_toString_0e30d (c_J4_toString_0e30d (T := (((((((([] : List Nat) ++ cTx 33) ++ txN n fu (kdA q)) ++ cTx 32) ++ cTx 22) ++ cTx 33) ++ txN n fu (kdB q)) ++ cTx 32)) h8 (by simp only [List.length_append, List.length_nil] at hl9 ⊢; omega)) rfl rfl rfl ((arrS Z n1 6 (wdA Z) ++ arrS Z n2 6 (wdB Z)) ++ arrS Z n3 5 (wdC Z)) (wPl Z L) (by simp only [List.append_assoc, List.append_nil, List.nil_append]) rfl (rmT_m (by decide) (by decide)) (Nat.le_of_ble_eq_true rfl) rfl rfl ?_
          rintro _ _ ⟨s9, t9, b9, rfl, rfl, h9⟩
          refine J_st (.ref s9 :: []) rfl ?_
          refine J_ws (((((((arrS Z n1 6 (wdA Z) ++ arrS Z n2 6 (wdB Z)) ++ arrS Z n3 5 (wdC Z)) ++ wTo Z s9 t9) ++ wSo Z n12 y8 (nI (((((((([] : List Nat) ++ cTx 33) ++ txN n fu (kdA q)) ++ cTx 32) ++ cTx 22) ++ cTx 33) ++ txN n fu (kdB q)) ++ cTx 32).length)) ++ arrB Z y8 c8 b8) ++ arrB Z t9 ((((((((([] : List Nat) ++ cTx 33) ++ txN n fu (kdA q)) ++ cTx 32) ++ cTx 22) ++ cTx 33) ++ txN n fu (kdB q)) ++ cTx 32).length) b9) ++ wPl Z L) (by simp only [List.append_assoc, List.append_nil, List.nil_append]) ?_
          refine J_drop [] ((arrS Z n1 6 (wdA Z) ++ arrS Z n2 6 (wdB Z)) ++ arrS Z n3 5 (wdC Z)) ((((wTo Z s9 t9 ++ wSo Z n12 y8 (nI (((((((([] : List Nat) ++ cTx 33) ++ txN n fu (kdA q)) ++ cTx 32) ++ cTx 22) ++ cTx 33) ++ txN n fu (kdB q)) ++ cTx 32).length)) ++ arrB Z y8 c8 b8) ++ arrB Z t9 ((((((((([] : List Nat) ++ cTx 33) ++ txN n fu (kdA q)) ++ cTx 32) ++ cTx 22) ++ cTx 33) ++ txN n fu (kdB q)) ++ cTx 32).length) b9) ++ wPl Z L) (by simp only [List.append_assoc, List.append_nil, List.nil_append]) ?_
          refine J_ws ((((wTo Z s9 t9 ++ wSo Z n12 y8 (nI (((((((([] : List Nat) ++ cTx 33) ++ txN n fu (kdA q)) ++ cTx 32) ++ cTx 22) ++ cTx 33) ++ txN n fu (kdB q)) ++ cTx 32).length)) ++ arrB Z y8 c8 b8) ++ arrB Z t9 ((((((((([] : List Nat) ++ cTx 33) ++ txN n fu (kdA q)) ++ cTx 32) ++ cTx 22) ++ cTx 33) ++ txN n fu (kdB q)) ++ cTx 32).length) b9) ++ wPl Z L) (by simp only [List.append_assoc, List.append_nil, List.nil_append]) ?_
          refine J_drop (wTo Z s9 t9) ((wSo Z n12 y8 (nI (((((((([] : List Nat) ++ cTx 33) ++ txN n fu (kdA q)) ++ cTx 32) ++ cTx 22) ++ cTx 33) ++ txN n fu (kdB q)) ++ cTx 32).length)) ++ arrB Z y8 c8 b8) ((arrB Z t9 ((((((((([] : List Nat) ++ cTx 33) ++ txN n fu (kdA q)) ++ cTx 32) ++ cTx 22) ++ cTx 33) ++ txN n fu (kdB q)) ++ cTx 32).length) b9) ++ wPl Z L) (by simp only [List.append_assoc, List.append_nil, List.nil_append]) ?_
          refine J_ws ((wTo Z s9 t9 ++ arrB Z t9 ((((((((([] : List Nat) ++ cTx 33) ++ txN n fu (kdA q)) ++ cTx 32) ++ cTx 22) ++ cTx 33) ++ txN n fu (kdB q)) ++ cTx 32).length) b9) ++ wPl Z L) (by simp only [List.append_assoc, List.append_nil, List.nil_append]) ?_
          refine J_perm ((wTo Z s9 t9 ++ wPl Z L) ++ arrB Z t9 ((((((((([] : List Nat) ++ cTx 33) ++ txN n fu (kdA q)) ++ cTx 32) ++ cTx 22) ++ cTx 33) ++ txN n fu (kdB q)) ++ cTx 32).length) b9) (sw2 _ _ _) ?_
          refine J_perm ((wPl Z L ++ wTo Z s9 t9) ++ arrB Z t9 ((((((((([] : List Nat) ++ cTx 33) ++ txN n fu (kdA q)) ++ cTx 32) ++ cTx 22) ++ cTx 33) ++ txN n fu (kdB q)) ++ cTx 32).length) b9) (List.perm_append_comm.append_right _) ?_
          exact J_aret C E iX10_text_299 (Or.inl ⟨_, rfl⟩) (Or.inr ⟨s9, _, _, rfl, rfl, h9⟩)
        · refine J_room (rc2 := (tcN fu) + (10 + 0 * tcN fu)) (rs2 := (tsN fu) + (10953 + 0 * tsN fu)) (by omega) (by omega) ?_
          obtain ⟨j1_, e1_, f1_⟩ := InT.at hxb
          refine J_cVb (As := []) (st := .ref n12 :: []) (rc2 := 10 + 0 * tcN fu) (rs2 := 10953 + 0 * tsN fu) (w0 := wPl Z L) (q0 := j1_) C iX10_text_285 lm_X10_111 yc_X10_text yv_X10_text (ih (q := kdB q) hxb (by simp only [List.length_append] at hl9; omega)) rfl rfl (wPl_at f1_) ((((arrS Z n1 6 (wdA Z) ++ arrS Z n2 6 (wdB Z)) ++ arrS Z n3 5 (wdC Z)) ++ wSo Z n12 y6 (nI (((((([] : List Nat) ++ cTx 33) ++ txN n fu (kdA q)) ++ cTx 32) ++ cTx 22) ++ cTx 33).length)) ++ arrB Z y6 c6 b6) [] (by simp only [List.append_assoc, List.append_nil, List.nil_append]) rfl (rmT_le (by omega) (by decide)) (Nat.le_of_ble_eq_true rfl) rfl rfl ?_
          rintro _ _ (⟨j7, hj7, rfl, rfl, e7⟩ | ⟨s7, t7, b7, rfl, rfl, e7⟩)
          · refine J_st (.ref (zsk Z j7) :: .ref n12 :: []) rfl ?_
            refine J_ws (((((arrS Z n1 6 (wdA Z) ++ arrS Z n2 6 (wdB Z)) ++ arrS Z n3 5 (wdC Z)) ++ wSo Z n12 y6 (nI (((((([] : List Nat) ++ cTx 33) ++ txN n fu (kdA q)) ++ cTx 32) ++ cTx 22) ++ cTx 33).length)) ++ arrB Z y6 c6 b6) ++ wPl Z L) (by simp only [List.append_assoc, List.append_nil, List.nil_append]) ?_
            refine J_room (rc2 := 1 + (9 + 0 * tcN fu)) (rs2 := 4002 + (6951 + 0 * tsN fu)) (by omega) (by omega) ?_
            refine J_cVb (As := [.ref (zsk Z j7)]) (st := []) (rc2 := 9 + 0 * tcN fu) (rs2 := 6951 + 0 * tsN fu) (w0 := ((wSo Z n12 y6 (nI (((((([] : List Nat) ++ cTx 33) ++ txN n fu (kdA q)) ++ cTx 32) ++ cTx 22) ++ cTx 33).length)) ++ arrB Z y6 c6 b6)) (q0 := 0) C iX10_text_288 lm_X10_96 yc_J4_append_15ec4 yv_J4_append_15ec4 (c_J4_append_C (T := (((((([] : List Nat) ++ cTx 33) ++ txN n fu (kdA q)) ++ cTx 32) ++ cTx 22) ++ cTx 33)) (i := j7) h6 hj7 (by rw [← e7]; simp only [List.length_append, List.length_nil] at hl9 ⊢; omega)) rfl rfl rfl ((arrS Z n1 6 (wdA Z) ++ arrS Z n2 6 (wdB Z)) ++ arrS Z n3 5 (wdC Z)) (wPl Z L) (by simp only [List.append_assoc, List.append_nil, List.nil_append]) rfl (rmT_m (by decide) (by decide)) (Nat.le_of_ble_eq_true rfl) rfl rfl ?_
            rintro _ _ ⟨rfl, y10, c10, b10, rfl, h10⟩
            refine J_st (.ref n12 :: []) rfl ?_
            refine J_ws (((((arrS Z n1 6 (wdA Z) ++ arrS Z n2 6 (wdB Z)) ++ arrS Z n3 5 (wdC Z)) ++ wSo Z n12 y10 (nI ((((((([] : List Nat) ++ cTx 33) ++ txN n fu (kdA q)) ++ cTx 32) ++ cTx 22) ++ cTx 33) ++ cTx j7).length)) ++ arrB Z y10 c10 b10) ++ wPl Z L) (by simp only [List.append_assoc, List.append_nil, List.nil_append]) ?_
            rw [← e7]
            exact hk291_7 (y10, c10, b10) (by rw [e7]; exact h10)
          · refine J_st (.ref s7 :: .ref n12 :: []) rfl ?_
            refine J_ws (((((((arrS Z n1 6 (wdA Z) ++ arrS Z n2 6 (wdB Z)) ++ arrS Z n3 5 (wdC Z)) ++ wSo Z n12 y6 (nI (((((([] : List Nat) ++ cTx 33) ++ txN n fu (kdA q)) ++ cTx 32) ++ cTx 22) ++ cTx 33).length)) ++ arrB Z y6 c6 b6) ++ wPl Z L) ++ wTo Z s7 t7) ++ arrB Z t7 ((txN n fu (kdB q)).length) b7) (by simp only [List.append_assoc, List.append_nil, List.nil_append]) ?_
            refine J_perm (((((((arrS Z n1 6 (wdA Z) ++ arrS Z n2 6 (wdB Z)) ++ arrS Z n3 5 (wdC Z)) ++ wSo Z n12 y6 (nI (((((([] : List Nat) ++ cTx 33) ++ txN n fu (kdA q)) ++ cTx 32) ++ cTx 22) ++ cTx 33).length)) ++ arrB Z y6 c6 b6) ++ wTo Z s7 t7) ++ wPl Z L) ++ arrB Z t7 ((txN n fu (kdB q)).length) b7) ((sw2 _ _ _).append_right _) ?_
            refine J_perm (((((((arrS Z n1 6 (wdA Z) ++ arrS Z n2 6 (wdB Z)) ++ arrS Z n3 5 (wdC Z)) ++ wSo Z n12 y6 (nI (((((([] : List Nat) ++ cTx 33) ++ txN n fu (kdA q)) ++ cTx 32) ++ cTx 22) ++ cTx 33).length)) ++ arrB Z y6 c6 b6) ++ wTo Z s7 t7) ++ arrB Z t7 ((txN n fu (kdB q)).length) b7) ++ wPl Z L) (sw2 _ _ _) ?_
            refine J_room (rc2 := 1 + (9 + 0 * tcN fu)) (rs2 := 4002 + (6951 + 0 * tsN fu)) (by omega) (by omega) ?_
            refine J_cVb (As := [.ref s7]) (st := []) (rc2 := 9 + 0 * tcN fu) (rs2 := 6951 + 0 * tsN fu) (w0 := ((((wSo Z n12 y6 (nI (((((([] : List Nat) ++ cTx 33) ++ txN n fu (kdA q)) ++ cTx 32) ++ cTx 22) ++ cTx 33).length)) ++ arrB Z y6 c6 b6) ++ wTo Z s7 t7) ++ arrB Z t7 ((txN n fu (kdB q)).length) b7)) (q0 := 0) C iX10_text_288 lm_X10_96 yc_J4_append_15ec4 yv_J4_append_15ec4 (c_J4_append_D (T := (((((([] : List Nat) ++ cTx 33) ++ txN n fu (kdA q)) ++ cTx 32) ++ cTx 22) ++ cTx 33)) (S := txN n fu (kdB q)) h6 e7 (by simp only [List.length_append, List.length_nil] at hl9 ⊢; omega)) rfl rfl rfl ((arrS Z n1 6 (wdA Z) ++ arrS Z n2 6 (wdB Z)) ++ arrS Z n3 5 (wdC Z)) (wPl Z L) (by simp only [List.append_assoc, List.append_nil, List.nil_append]) rfl (rmT_m (by decide) (by decide)) (Nat.le_of_ble_eq_true rfl) rfl rfl ?_
            rintro _ _ ⟨rfl, y11, c11, b11, rfl, h11⟩
            refine J_st (.ref n12 :: []) rfl ?_
            refine J_ws (((((((arrS Z n1 6 (wdA Z) ++ arrS Z n2 6 (wdB Z)) ++ arrS Z n3 5 (wdC Z)) ++ wSo Z n12 y11 (nI ((((((([] : List Nat) ++ cTx 33) ++ txN n fu (kdA q)) ++ cTx 32) ++ cTx 22) ++ cTx 33) ++ txN n fu (kdB q)).length)) ++ arrB Z y11 c11 b11) ++ wTo Z s7 t7) ++ arrB Z t7 ((txN n fu (kdB q)).length) b7) ++ wPl Z L) (by simp only [List.append_assoc, List.append_nil, List.nil_append]) ?_
            refine J_drop ((((arrS Z n1 6 (wdA Z) ++ arrS Z n2 6 (wdB Z)) ++ arrS Z n3 5 (wdC Z)) ++ wSo Z n12 y11 (nI ((((((([] : List Nat) ++ cTx 33) ++ txN n fu (kdA q)) ++ cTx 32) ++ cTx 22) ++ cTx 33) ++ txN n fu (kdB q)).length)) ++ arrB Z y11 c11 b11) (wTo Z s7 t7 ++ arrB Z t7 ((txN n fu (kdB q)).length) b7) (wPl Z L) (by simp only [List.append_assoc, List.append_nil, List.nil_append]) ?_
            refine J_ws (((((arrS Z n1 6 (wdA Z) ++ arrS Z n2 6 (wdB Z)) ++ arrS Z n3 5 (wdC Z)) ++ wSo Z n12 y11 (nI ((((((([] : List Nat) ++ cTx 33) ++ txN n fu (kdA q)) ++ cTx 32) ++ cTx 22) ++ cTx 33) ++ txN n fu (kdB q)).length)) ++ arrB Z y11 c11 b11) ++ wPl Z L) (by simp only [List.append_assoc, List.append_nil, List.nil_append]) ?_
            exact hk291_7 (y11, c11, b11) h11
      · refine J_room (rc2 := (tcN fu) + (14 + 1 * tcN fu)) (rs2 := (tsN fu) + (26961 + 1 * tsN fu)) (by omega) (by omega) ?_
        obtain ⟨j2_, e2_, f2_⟩ := InT.at hxa
        refine J_cVb (As := []) (st := .ref n12 :: []) (rc2 := 14 + 1 * tcN fu) (rs2 := 26961 + 1 * tsN fu) (w0 := wPl Z L) (q0 := j2_) C iX10_text_253 lm_X10_111 yc_X10_text yv_X10_text (ih (q := kdA q) hxa (by simp only [List.length_append] at hl9; omega)) rfl rfl (wPl_at f2_) ((((arrS Z n1 6 (wdA Z) ++ arrS Z n2 6 (wdB Z)) ++ arrS Z n3 5 (wdC Z)) ++ wSo Z n12 y2 (nI (([] : List Nat) ++ cTx 33).length)) ++ arrB Z y2 c2 b2) [] (by simp only [List.append_assoc, List.append_nil, List.nil_append]) rfl (rmT_le (by omega) (by decide)) (Nat.le_of_ble_eq_true rfl) rfl rfl ?_
        rintro _ _ (⟨j3, hj3, rfl, rfl, e3⟩ | ⟨s3, t3, b3, rfl, rfl, e3⟩)
        · refine J_st (.ref (zsk Z j3) :: .ref n12 :: []) rfl ?_
          refine J_ws (((((arrS Z n1 6 (wdA Z) ++ arrS Z n2 6 (wdB Z)) ++ arrS Z n3 5 (wdC Z)) ++ wSo Z n12 y2 (nI (([] : List Nat) ++ cTx 33).length)) ++ arrB Z y2 c2 b2) ++ wPl Z L) (by simp only [List.append_assoc, List.append_nil, List.nil_append]) ?_
          refine J_room (rc2 := 1 + (13 + 1 * tcN fu)) (rs2 := 4002 + (22959 + 1 * tsN fu)) (by omega) (by omega) ?_
          refine J_cVb (As := [.ref (zsk Z j3)]) (st := []) (rc2 := 13 + 1 * tcN fu) (rs2 := 22959 + 1 * tsN fu) (w0 := ((wSo Z n12 y2 (nI (([] : List Nat) ++ cTx 33).length)) ++ arrB Z y2 c2 b2)) (q0 := 0) C iX10_text_256 lm_X10_96 yc_J4_append_15ec4 yv_J4_append_15ec4 (c_J4_append_C (T := (([] : List Nat) ++ cTx 33)) (i := j3) h2 hj3 (by rw [← e3]; simp only [List.length_append, List.length_nil] at hl9 ⊢; omega)) rfl rfl rfl ((arrS Z n1 6 (wdA Z) ++ arrS Z n2 6 (wdB Z)) ++ arrS Z n3 5 (wdC Z)) (wPl Z L) (by simp only [List.append_assoc, List.append_nil, List.nil_append]) rfl (rmT_m (by decide) (by decide)) (Nat.le_of_ble_eq_true rfl) rfl rfl ?_
          rintro _ _ ⟨rfl, y12, c12, b12, rfl, h12⟩
          refine J_st (.ref n12 :: []) rfl ?_
          refine J_ws (((((arrS Z n1 6 (wdA Z) ++ arrS Z n2 6 (wdB Z)) ++ arrS Z n3 5 (wdC Z)) ++ wSo Z n12 y12 (nI ((([] : List Nat) ++ cTx 33) ++ cTx j3).length)) ++ arrB Z y12 c12 b12) ++ wPl Z L) (by simp only [List.append_assoc, List.append_nil, List.nil_append]) ?_
          rw [← e3]
          exact hk259_3 (y12, c12, b12) (by rw [e3]; exact h12)
        · refine J_st (.ref s3 :: .ref n12 :: []) rfl ?_
          refine J_ws (((((((arrS Z n1 6 (wdA Z) ++ arrS Z n2 6 (wdB Z)) ++ arrS Z n3 5 (wdC Z)) ++ wSo Z n12 y2 (nI (([] : List Nat) ++ cTx 33).length)) ++ arrB Z y2 c2 b2) ++ wPl Z L) ++ wTo Z s3 t3) ++ arrB Z t3 ((txN n fu (kdA q)).length) b3) (by simp only [List.append_assoc, List.append_nil, List.nil_append]) ?_
          refine J_perm (((((((arrS Z n1 6 (wdA Z) ++ arrS Z n2 6 (wdB Z)) ++ arrS Z n3 5 (wdC Z)) ++ wSo Z n12 y2 (nI (([] : List Nat) ++ cTx 33).length)) ++ arrB Z y2 c2 b2) ++ wTo Z s3 t3) ++ wPl Z L) ++ arrB Z t3 ((txN n fu (kdA q)).length) b3) ((sw2 _ _ _).append_right _) ?_
          refine J_perm (((((((arrS Z n1 6 (wdA Z) ++ arrS Z n2 6 (wdB Z)) ++ arrS Z n3 5 (wdC Z)) ++ wSo Z n12 y2 (nI (([] : List Nat) ++ cTx 33).length)) ++ arrB Z y2 c2 b2) ++ wTo Z s3 t3) ++ arrB Z t3 ((txN n fu (kdA q)).length) b3) ++ wPl Z L) (sw2 _ _ _) ?_
          refine J_room (rc2 := 1 + (13 + 1 * tcN fu)) (rs2 := 4002 + (22959 + 1 * tsN fu)) (by omega) (by omega) ?_
          refine J_cVb (As := [.ref s3]) (st := []) (rc2 := 13 + 1 * tcN fu) (rs2 := 22959 + 1 * tsN fu) (w0 := ((((wSo Z n12 y2 (nI (([] : List Nat) ++ cTx 33).length)) ++ arrB Z y2 c2 b2) ++ wTo Z s3 t3) ++ arrB Z t3 ((txN n fu (kdA q)).length) b3)) (q0 := 0) C iX10_text_256 lm_X10_96 yc_J4_append_15ec4 yv_J4_append_15ec4 (c_J4_append_D (T := (([] : List Nat) ++ cTx 33)) (S := txN n fu (kdA q)) h2 e3 (by simp only [List.length_append, List.length_nil] at hl9 ⊢; omega)) rfl rfl rfl ((arrS Z n1 6 (wdA Z) ++ arrS Z n2 6 (wdB Z)) ++ arrS Z n3 5 (wdC Z)) (wPl Z L) (by simp only [List.append_assoc, List.append_nil, List.nil_append]) rfl (rmT_m (by decide) (by decide)) (Nat.le_of_ble_eq_true rfl) rfl rfl ?_
          rintro _ _ ⟨rfl, y13, c13, b13, rfl, h13⟩
          refine J_st (.ref n12 :: []) rfl ?_
          refine J_ws (((((((arrS Z n1 6 (wdA Z) ++ arrS Z n2 6 (wdB Z)) ++ arrS Z n3 5 (wdC Z)) ++ wSo Z n12 y13 (nI ((([] : List Nat) ++ cTx 33) ++ txN n fu (kdA q)).length)) ++ arrB Z y13 c13 b13) ++ wTo Z s3 t3) ++ arrB Z t3 ((txN n fu (kdA q)).length) b3) ++ wPl Z L) (by simp only [List.append_assoc, List.append_nil, List.nil_append]) ?_
          refine J_drop ((((arrS Z n1 6 (wdA Z) ++ arrS Z n2 6 (wdB Z)) ++ arrS Z n3 5 (wdC Z)) ++ wSo Z n12 y13 (nI ((([] : List Nat) ++ cTx 33) ++ txN n fu (kdA q)).length)) ++ arrB Z y13 c13 b13) (wTo Z s3 t3 ++ arrB Z t3 ((txN n fu (kdA q)).length) b3) (wPl Z L) (by simp only [List.append_assoc, List.append_nil, List.nil_append]) ?_
          refine J_ws (((((arrS Z n1 6 (wdA Z) ++ arrS Z n2 6 (wdB Z)) ++ arrS Z n3 5 (wdC Z)) ++ wSo Z n12 y13 (nI ((([] : List Nat) ++ cTx 33) ++ txN n fu (kdA q)).length)) ++ arrB Z y13 c13 b13) ++ wPl Z L) (by simp only [List.append_assoc, List.append_nil, List.nil_append]) ?_
          exact hk259_3 (y13, c13, b13) h13
    · rw [hk] at hi9 hbA hbB
      obtain ⟨xa, rfl, hxa⟩ := hbA rfl
      obtain ⟨xb, rfl, hxb⟩ := hbB rfl
      have htx : txN n (fu + 1) q = (((((([] : List Nat) ++ cTx 23) ++ (txN n fu (kdA q))) ++ cTx 34) ++ (txN n fu (kdB q))) ++ cTx 32) := by rw [txN, tx1, if_neg (by omega), if_neg (by omega), if_neg (by omega), if_neg (by omega), if_neg (by omega), if_neg (by omega), if_neg (by omega), if_neg (by omega), if_neg (by omega), if_neg (by omega), if_neg (by omega), if_pos hk]
      rw [htx] at hl9 ⊢
      refine J_aload_n C iX10_text_102 rfl rfl ?_
      refine J_get (.int 11) ((((arrS Z n1 6 (wdA Z) ++ arrS Z n2 6 (wdB Z)) ++ arrS Z n3 5 (wdC Z))).length + i) C iX10_text_103 gf_X10_7 (mid_at (A := ((arrS Z n1 6 (wdA Z) ++ arrS Z n2 6 (wdB Z)) ++ arrS Z n3 5 (wdC Z))) (M := wPl Z L) (B := []) (by simp only [List.append_assoc, List.append_nil, List.nil_append]) (wPl_at hi9)) rfl ?_
      refine J_ifne 132 C iX10_text_106 rfl (fun h106 => ?_) (fun h106 => absurd h106 (by decide))
      refine J_aload_n C iX10_text_132 rfl rfl ?_
      refine J_get (.int 11) ((((arrS Z n1 6 (wdA Z) ++ arrS Z n2 6 (wdB Z)) ++ arrS Z n3 5 (wdC Z))).length + i) C iX10_text_133 gf_X10_7 (mid_at (A := ((arrS Z n1 6 (wdA Z) ++ arrS Z n2 6 (wdB Z)) ++ arrS Z n3 5 (wdC Z))) (M := wPl Z L) (B := []) (by simp only [List.append_assoc, List.append_nil, List.nil_append]) (wPl_at hi9)) rfl ?_
      refine J_iconst 3 C iX10_text_136 rfl ?_
      refine J_icmpge 147 C iX10_text_137 rfl (fun h137 => ?_) (fun h137 => absurd (by decide) h137)
      refine J_aload_n C iX10_text_147 rfl rfl ?_
      refine J_get (.int 11) ((((arrS Z n1 6 (wdA Z) ++ arrS Z n2 6 (wdB Z)) ++ arrS Z n3 5 (wdC Z))).length + i) C iX10_text_148 gf_X10_7 (mid_at (A := ((arrS Z n1 6 (wdA Z) ++ arrS Z n2 6 (wdB Z)) ++ arrS Z n3 5 (wdC Z))) (M := wPl Z L) (B := []) (by simp only [List.append_assoc, List.append_nil, List.nil_append]) (wPl_at hi9)) rfl ?_
      refine J_bipush 6 C iX10_text_151 rfl ?_
      refine J_icmpge 188 C iX10_text_153 rfl (fun h153 => ?_) (fun h153 => absurd (by decide) h153)
      refine J_aload_n C iX10_text_188 rfl rfl ?_
      refine J_get (.int 11) ((((arrS Z n1 6 (wdA Z) ++ arrS Z n2 6 (wdB Z)) ++ arrS Z n3 5 (wdC Z))).length + i) C iX10_text_189 gf_X10_7 (mid_at (A := ((arrS Z n1 6 (wdA Z) ++ arrS Z n2 6 (wdB Z)) ++ arrS Z n3 5 (wdC Z))) (M := wPl Z L) (B := []) (by simp only [List.append_assoc, List.append_nil, List.nil_append]) (wPl_at hi9)) rfl ?_
      refine J_bipush 6 C iX10_text_192 rfl ?_
      refine J_icmpne 228 C iX10_text_194 rfl (fun h194 => ?_) (fun h194 => absurd h194 (by decide))
      refine J_aload_n C iX10_text_228 rfl rfl ?_
      refine J_get (.int 11) ((((arrS Z n1 6 (wdA Z) ++ arrS Z n2 6 (wdB Z)) ++ arrS Z n3 5 (wdC Z))).length + i) C iX10_text_229 gf_X10_7 (mid_at (A := ((arrS Z n1 6 (wdA Z) ++ arrS Z n2 6 (wdB Z)) ++ arrS Z n3 5 (wdC Z))) (M := wPl Z L) (B := []) (by simp only [List.append_assoc, List.append_nil, List.nil_append]) (wPl_at hi9)) rfl ?_
      refine J_bipush 11 C iX10_text_232 rfl ?_
      refine J_icmpge 300 C iX10_text_234 rfl (fun h234 => ?_) (fun h234 => absurd (by decide) h234)
      refine J_aload_n C iX10_text_300 rfl rfl ?_
      refine J_get (.int 11) ((((arrS Z n1 6 (wdA Z) ++ arrS Z n2 6 (wdB Z)) ++ arrS Z n3 5 (wdC Z))).length + i) C iX10_text_301 gf_X10_7 (mid_at (A := ((arrS Z n1 6 (wdA Z) ++ arrS Z n2 6 (wdB Z)) ++ arrS Z n3 5 (wdC Z))) (M := wPl Z L) (B := []) (by simp only [List.append_assoc, List.append_nil, List.nil_append]) (wPl_at hi9)) rfl ?_
      refine J_bipush 13 C iX10_text_304 rfl ?_
      refine J_icmpge 362 C iX10_text_306 rfl (fun h306 => absurd h306 (by decide)) (fun h306 => ?_)
      refine J_room (rc2 := 1 + (16 + 2 * tcN fu)) (rs2 := 4 + (30979 + 2 * tsN fu)) (by omega) (by omega) ?_
      refine J_new (ci := 11) [.null, .int 0, .int 0, .int 0] tyJ4 C iX10_text_309 rfl lay_J4 tyJ4_ok (tsg_in (i := 1410) (by decide +kernel) rfl) (tsg_in (i := 1411) (by decide +kernel) rfl) (tsg_in (i := 45) (by decide +kernel) rfl) df_J4 (fun n13 => ?_)
      refine J_ws ((((arrS Z n1 6 (wdA Z) ++ arrS Z n2 6 (wdB Z)) ++ arrS Z n3 5 (wdC Z)) ++ wPl Z L) ++ wS0 Z n13) rfl ?_
      refine J_perm ((((arrS Z n1 6 (wdA Z) ++ arrS Z n2 6 (wdB Z)) ++ arrS Z n3 5 (wdC Z)) ++ wS0 Z n13) ++ wPl Z L) (sw2 _ _ _) ?_
      refine J_dup C iX10_text_312 rfl ?_
      refine J_room (rc2 := 1 + (15 + 2 * tcN fu)) (rs2 := 16 + (30963 + 2 * tsN fu)) (by omega) (by omega) ?_
      refine J_cIb (As := []) (st := .ref n13 :: []) (rc2 := 15 + 2 * tcN fu) (rs2 := 30963 + 2 * tsN fu) (w0 := (wS0 Z n13)) C iX10_text_313 lm_X10_95 yc_J4_init_da8c8 yi_J4_init_da8c8 c_J4_init_da8c8 ((arrS Z n1 6 (wdA Z) ++ arrS Z n2 6 (wdB Z)) ++ arrS Z n3 5 (wdC Z)) (wPl Z L) (by simp only [List.append_assoc, List.append_nil, List.nil_append]) rfl (rmT_m (by decide) (by decide)) (Nat.le_of_ble_eq_true rfl) rfl rfl ?_
      rintro _ _ ⟨rfl, q1, rfl⟩
      refine J_st (.ref n13 :: []) rfl ?_
      refine J_ws (((((arrS Z n1 6 (wdA Z) ++ arrS Z n2 6 (wdB Z)) ++ arrS Z n3 5 (wdC Z)) ++ wSo Z n13 q1 0) ++ arrB Z q1 16 (fun _ => 0)) ++ wPl Z L) (by simp only [List.append_assoc, List.append_nil, List.nil_append]) ?_
      refine J_aload_n C iX10_text_316 rfl rfl ?_
      refine J_aload_n C iX10_text_317 rfl rfl ?_
      refine J_get (.int 11) ((((((arrS Z n1 6 (wdA Z) ++ arrS Z n2 6 (wdB Z)) ++ arrS Z n3 5 (wdC Z)) ++ wSo Z n13 q1 0) ++ arrB Z q1 16 (fun _ => 0))).length + i) C iX10_text_318 gf_X10_7 (mid_at (A := ((((arrS Z n1 6 (wdA Z) ++ arrS Z n2 6 (wdB Z)) ++ arrS Z n3 5 (wdC Z)) ++ wSo Z n13 q1 0) ++ arrB Z q1 16 (fun _ => 0))) (M := wPl Z L) (B := []) (by simp only [List.append_assoc, List.append_nil, List.nil_append]) (wPl_at hi9)) rfl ?_
      refine J_bipush 7 C iX10_text_321 rfl ?_
      refine J_isub C iX10_text_323 ?_
      rw [show (11 - 7 : Int32) = 4 from rfl]
      refine J_aaldS 1 C iX10_text_324 rfl (vp_in_nI (n := 4) (by decide) (by decide)) ?_
      rw [show Int32.toNatClampNeg 4 = 4 from rfl]
      refine J_st (.ref (zsk Z 23) :: .ref n13 :: []) rfl ?_
      refine J_room (rc2 := 1 + (14 + 2 * tcN fu)) (rs2 := 4002 + (26961 + 2 * tsN fu)) (by omega) (by omega) ?_
      refine J_cVb (As := [.ref (zsk Z 23)]) (st := []) (rc2 := 14 + 2 * tcN fu) (rs2 := 26961 + 2 * tsN fu) (w0 := (wSo Z n13 q1 0 ++ arrB Z q1 16 (fun _ => 0))) (q0 := 0) C iX10_text_325 lm_X10_96 yc_J4_append_15ec4 yv_J4_append_15ec4 (c_J4_append_C (T := ([] : List Nat)) (i := 23) sb_new (by decide) (by simp only [List.length_append, List.length_nil] at hl9 ⊢; omega)) rfl rfl rfl ((arrS Z n1 6 (wdA Z) ++ arrS Z n2 6 (wdB Z)) ++ arrS Z n3 5 (wdC Z)) (wPl Z L) (by simp only [List.append_assoc, List.append_nil, List.nil_append]) rfl (rmT_m (by decide) (by decide)) (Nat.le_of_ble_eq_true rfl) rfl rfl ?_
      rintro _ _ ⟨rfl, y2, c2, b2, rfl, h2⟩
      refine J_st (.ref n13 :: []) rfl ?_
      refine J_ws (((((arrS Z n1 6 (wdA Z) ++ arrS Z n2 6 (wdB Z)) ++ arrS Z n3 5 (wdC Z)) ++ wSo Z n13 y2 (nI (([] : List Nat) ++ cTx 23).length)) ++ arrB Z y2 c2 b2) ++ wPl Z L) (by simp only [List.append_assoc, List.append_nil, List.nil_append]) ?_
      refine J_aload_n C iX10_text_328 rfl rfl ?_
      refine J_get (.ref xa) ((((((arrS Z n1 6 (wdA Z) ++ arrS Z n2 6 (wdB Z)) ++ arrS Z n3 5 (wdC Z)) ++ wSo Z n13 y2 (nI (([] : List Nat) ++ cTx 23).length)) ++ arrB Z y2 c2 b2)).length + i) C iX10_text_329 gf_X10_36 (mid_at (A := ((((arrS Z n1 6 (wdA Z) ++ arrS Z n2 6 (wdB Z)) ++ arrS Z n3 5 (wdC Z)) ++ wSo Z n13 y2 (nI (([] : List Nat) ++ cTx 23).length)) ++ arrB Z y2 c2 b2)) (M := wPl Z L) (B := []) (by simp only [List.append_assoc, List.append_nil, List.nil_append]) (wPl_at hi9)) rfl ?_
      refine J_alt (ι := Nat × Nat × (Nat → Int32)) (P := fun i9 => SbT ((([] : List Nat) ++ cTx 23) ++ txN n fu (kdA q)) i9.2.1 i9.2.2) (13 + 1 * tcN fu) (22959 + 1 * tsN fu) 338 (fun _ => [(3, .ref n3), (2, .ref n2), (1, .ref n1), (0, .ref a)]) (fun _ => .ref n13 :: []) (fun i9 => (((((arrS Z n1 6 (wdA Z) ++ arrS Z n2 6 (wdB Z)) ++ arrS Z n3 5 (wdC Z)) ++ wSo Z n13 i9.1 (nI ((([] : List Nat) ++ cTx 23) ++ txN n fu (kdA q)).length)) ++ arrB Z i9.1 i9.2.1 i9.2.2) ++ wPl Z L)) (fun i9 hi9_ => ?_) (fun hk338_3 => ?_)
      · obtain ⟨z3, k3, m3⟩ := i9
        have g3 : SbT ((([] : List Nat) ++ cTx 23) ++ txN n fu (kdA q)) k3 m3 := hi9_
        refine J_ws (((((arrS Z n1 6 (wdA Z) ++ arrS Z n2 6 (wdB Z)) ++ arrS Z n3 5 (wdC Z)) ++ wSo Z n13 z3 (nI ((([] : List Nat) ++ cTx 23) ++ txN n fu (kdA q)).length)) ++ arrB Z z3 k3 m3) ++ wPl Z L) rfl ?_
        refine J_ldcS 34 C iX10_text_338 rfl ?_
        refine J_room (rc2 := 1 + (12 + 1 * tcN fu)) (rs2 := 4002 + (18957 + 1 * tsN fu)) (by omega) (by omega) ?_
        refine J_cVb (As := [.ref (zsk Z 34)]) (st := []) (rc2 := 12 + 1 * tcN fu) (rs2 := 18957 + 1 * tsN fu) (w0 := ((wSo Z n13 z3 (nI ((([] : List Nat) ++ cTx 23) ++ txN n fu (kdA q)).length)) ++ arrB Z z3 k3 m3)) (q0 := 0) C iX10_text_340 lm_X10_96 yc_J4_append_15ec4 yv_J4_append_15ec4 (c_J4_append_C (T := ((([] : List Nat) ++ cTx 23) ++ txN n fu (kdA q))) (i := 34) g3 (by decide) (by simp only [List.length_append, List.length_nil] at hl9 ⊢; omega)) rfl rfl rfl ((arrS Z n1 6 (wdA Z) ++ arrS Z n2 6 (wdB Z)) ++ arrS Z n3 5 (wdC Z)) (wPl Z L) (by simp only [List.append_assoc, List.append_nil, List.nil_append]) rfl (rmT_m (by decide) (by decide)) (Nat.le_of_ble_eq_true rfl) rfl rfl ?_
        rintro _ _ ⟨rfl, y4, c4, b4, rfl, h4⟩
        refine J_st (.ref n13 :: []) rfl ?_
        refine J_ws (((((arrS Z n1 6 (wdA Z) ++ arrS Z n2 6 (wdB Z)) ++ arrS Z n3 5 (wdC Z)) ++ wSo Z n13 y4 (nI (((([] : List Nat) ++ cTx 23) ++ txN n fu (kdA q)) ++ cTx 34).length)) ++ arrB Z y4 c4 b4) ++ wPl Z L) (by simp only [List.append_assoc, List.append_nil, List.nil_append]) ?_
        refine J_aload_n C iX10_text_343 rfl rfl ?_
        refine J_get (.ref xb) ((((((arrS Z n1 6 (wdA Z) ++ arrS Z n2 6 (wdB Z)) ++ arrS Z n3 5 (wdC Z)) ++ wSo Z n13 y4 (nI (((([] : List Nat) ++ cTx 23) ++ txN n fu (kdA q)) ++ cTx 34).length)) ++ arrB Z y4 c4 b4)).length + i) C iX10_text_344 gf_X10_51 (mid_at (A := ((((arrS Z n1 6 (wdA Z) ++ arrS Z n2 6 (wdB Z)) ++ arrS Z n3 5 (wdC Z)) ++ wSo Z n13 y4 (nI (((([] : List Nat) ++ cTx 23) ++ txN n fu (kdA q)) ++ cTx 34).length)) ++ arrB Z y4 c4 b4)) (M := wPl Z L) (B := []) (by simp only [List.append_assoc, List.append_nil, List.nil_append]) (wPl_at hi9)) rfl ?_
        refine J_alt (ι := Nat × Nat × (Nat → Int32)) (P := fun i9 => SbT ((((([] : List Nat) ++ cTx 23) ++ txN n fu (kdA q)) ++ cTx 34) ++ txN n fu (kdB q)) i9.2.1 i9.2.2) (11 + 0 * tcN fu) (14955 + 0 * tsN fu) 353 (fun _ => [(3, .ref n3), (2, .ref n2), (1, .ref n1), (0, .ref a)]) (fun _ => .ref n13 :: []) (fun i9 => (((((arrS Z n1 6 (wdA Z) ++ arrS Z n2 6 (wdB Z)) ++ arrS Z n3 5 (wdC Z)) ++ wSo Z n13 i9.1 (nI ((((([] : List Nat) ++ cTx 23) ++ txN n fu (kdA q)) ++ cTx 34) ++ txN n fu (kdB q)).length)) ++ arrB Z i9.1 i9.2.1 i9.2.2) ++ wPl Z L)) (fun i9 hi9_ => ?_) (fun hk353_5 => ?_)
        · obtain ⟨z5, k5, m5⟩ := i9
          have g5 : SbT ((((([] : List Nat) ++ cTx 23) ++ txN n fu (kdA q)) ++ cTx 34) ++ txN n fu (kdB q)) k5 m5 := hi9_
          refine J_ws (((((arrS Z n1 6 (wdA Z) ++ arrS Z n2 6 (wdB Z)) ++ arrS Z n3 5 (wdC Z)) ++ wSo Z n13 z5 (nI ((((([] : List Nat) ++ cTx 23) ++ txN n fu (kdA q)) ++ cTx 34) ++ txN n fu (kdB q)).length)) ++ arrB Z z5 k5 m5) ++ wPl Z L) rfl ?_
          refine J_ldcS 32 C iX10_text_353 rfl ?_
          refine J_room (rc2 := 1 + (10 + 0 * tcN fu)) (rs2 := 4002 + (10953 + 0 * tsN fu)) (by omega) (by omega) ?_
          refine J_cVb (As := [.ref (zsk Z 32)]) (st := []) (rc2 := 10 + 0 * tcN fu) (rs2 := 10953 + 0 * tsN fu) (w0 := ((wSo Z n13 z5 (nI ((((([] : List Nat) ++ cTx 23) ++ txN n fu (kdA q)) ++ cTx 34) ++ txN n fu (kdB q)).length)) ++ arrB Z z5 k5 m5)) (q0 := 0) C iX10_text_355 lm_X10_96 yc_J4_append_15ec4 yv_J4_append_15ec4 (c_J4_append_C (T := ((((([] : List Nat) ++ cTx 23) ++ txN n fu (kdA q)) ++ cTx 34) ++ txN n fu (kdB q))) (i := 32) g5 (by decide) (by simp only [List.length_append, List.length_nil] at hl9 ⊢; omega)) rfl rfl rfl ((arrS Z n1 6 (wdA Z) ++ arrS Z n2 6 (wdB Z)) ++ arrS Z n3 5 (wdC Z)) (wPl Z L) (by simp only [List.append_assoc, List.append_nil, List.nil_append]) rfl (rmT_m (by decide) (by decide)) (Nat.le_of_ble_eq_true rfl) rfl rfl ?_
          rintro _ _ ⟨rfl, y6, c6, b6, rfl, h6⟩
          refine J_st (.ref n13 :: []) rfl ?_
          refine J_ws (((((arrS Z n1 6 (wdA Z) ++ arrS Z n2 6 (wdB Z)) ++ arrS Z n3 5 (wdC Z)) ++ wSo Z n13 y6 (nI (((((([] : List Nat) ++ cTx 23) ++ txN n fu (kdA q)) ++ cTx 34) ++ txN n fu (kdB q)) ++ cTx 32).length)) ++ arrB Z y6 c6 b6) ++ wPl Z L) (by simp only [List.append_assoc, List.append_nil, List.nil_append]) ?_
          refine J_room (rc2 := 2 + (8 + 0 * tcN fu)) (rs2 := 2004 + (8949 + 0 * tsN fu)) (by omega) (by omega) ?_
          refine J_cVb (As := []) (st := []) (rc2 := 8 + 0 * tcN fu) (rs2 := 8949 + 0 * tsN fu) (w0 := ((wSo Z n13 y6 (nI (((((([] : List Nat) ++ cTx 23) ++ txN n fu (kdA q)) ++ cTx 34) ++ txN n fu (kdB q)) ++ cTx 32).length)) ++ arrB Z y6 c6 b6)) (q0 := 0) C iX10_text_358 lm_X10_103 yc_J4_toString_0e30d yv_J4_toString_0e30d (c_J4_toString_0e30d (T := (((((([] : List Nat) ++ cTx 23) ++ txN n fu (kdA q)) ++ cTx 34) ++ txN n fu (kdB q)) ++ cTx 32)) h6 (by simp only [List.length_append, List.length_nil] at hl9 ⊢; omega)) rfl rfl rfl ((arrS Z n1 6 (wdA Z) ++ arrS Z n2 6 (wdB Z)) ++ arrS Z n3 5 (wdC Z)) (wPl Z L) (by simp only [List.append_assoc, List.append_nil, List.nil_append]) rfl (rmT_m (by decide) (by decide)) (Nat.le_of_ble_eq_true rfl) rfl rfl ?_
          rintro _ _ ⟨s7, t7, b7, rfl, rfl, h7⟩
          refine J_st (.ref s7 :: []) rfl ?_
          refine J_ws (((((((arrS Z n1 6 (wdA Z) ++ arrS Z n2 6 (wdB Z)) ++ arrS Z n3 5 (wdC Z)) ++ wTo Z s7 t7) ++ wSo Z n13 y6 (nI (((((([] : List Nat) ++ cTx 23) ++ txN n fu (kdA q)) ++ cTx 34) ++ txN n fu (kdB q)) ++ cTx 32).length)) ++ arrB Z y6 c6 b6) ++ arrB Z t7 ((((((([] : List Nat) ++ cTx 23) ++ txN n fu (kdA q)) ++ cTx 34) ++ txN n fu (kdB q)) ++ cTx 32).length) b7) ++ wPl Z L) (by simp only [List.append_assoc, List.append_nil, List.nil_append]) ?_
          refine J_drop [] ((arrS Z n1 6 (wdA Z) ++ arrS Z n2 6 (wdB Z)) ++ arrS Z n3 5 (wdC Z)) ((((wTo Z s7 t7 ++ wSo Z n13 y6 (nI (((((([] : List Nat) ++ cTx 23) ++ txN n fu (kdA q)) ++ cTx 34) ++ txN n fu (kdB q)) ++ cTx 32).length)) ++ arrB Z y6 c6 b6) ++ arrB Z t7 ((((((([] : List Nat) ++ cTx 23) ++ txN n fu (kdA q)) ++ cTx 34) ++ txN n fu (kdB q)) ++ cTx 32).length) b7) ++ wPl Z L) (by simp only [List.append_assoc, List.append_nil, List.nil_append]) ?_
          refine J_ws ((((wTo Z s7 t7 ++ wSo Z n13 y6 (nI (((((([] : List Nat) ++ cTx 23) ++ txN n fu (kdA q)) ++ cTx 34) ++ txN n fu (kdB q)) ++ cTx 32).length)) ++ arrB Z y6 c6 b6) ++ arrB Z t7 ((((((([] : List Nat) ++ cTx 23) ++ txN n fu (kdA q)) ++ cTx 34) ++ txN n fu (kdB q)) ++ cTx 32).length) b7) ++ wPl Z L) (by simp only [List.append_assoc, List.append_nil, List.nil_append]) ?_
          refine J_drop (wTo Z s7 t7) ((wSo Z n13 y6 (nI (((((([] : List Nat) ++ cTx 23) ++ txN n fu (kdA q)) ++ cTx 34) ++ txN n fu (kdB q)) ++ cTx 32).length)) ++ arrB Z y6 c6 b6) ((arrB Z t7 ((((((([] : List Nat) ++ cTx 23) ++ txN n fu (kdA q)) ++ cTx 34) ++ txN n fu (kdB q)) ++ cTx 32).length) b7) ++ wPl Z L) (by simp only [List.append_assoc, List.append_nil, List.nil_append]) ?_
          refine J_ws ((wTo Z s7 t7 ++ arrB Z t7 ((((((([] : List Nat) ++ cTx 23) ++ txN n fu (kdA q)) ++ cTx 34) ++ txN n fu (kdB q)) ++ cTx 32).length) b7) ++ wPl Z L) (by simp only [List.append_assoc, List.append_nil, List.nil_append]) ?_
          refine J_perm ((wTo Z s7 t7 ++ wPl Z L) ++ arrB Z t7 ((((((([] : List Nat) ++ cTx 23) ++ txN n fu (kdA q)) ++ cTx 34) ++ txN n fu (kdB q)) ++ cTx 32).length) b7) (sw2 _ _ _) ?_
          refine J_perm ((wPl Z L ++ wTo Z s7 t7) ++ arrB Z t7 ((((((([] : List Nat) ++ cTx 23) ++ txN n fu (kdA q)) ++ cTx 34) ++ txN n fu (kdB q)) ++ cTx 32).length) b7) (List.perm_append_comm.append_right _) ?_
          exact J_aret C E iX10_text_361 (Or.inl ⟨_, rfl⟩) (Or.inr ⟨s7, _, _, rfl, rfl, h7⟩)
        · refine J_room (rc2 := (tcN fu) + (12 + 0 * tcN fu)) (rs2 := (tsN fu) + (18957 + 0 * tsN fu)) (by omega) (by omega) ?_
          obtain ⟨j1_, e1_, f1_⟩ := InT.at hxb
          refine J_cVb (As := []) (st := .ref n13 :: []) (rc2 := 12 + 0 * tcN fu) (rs2 := 18957 + 0 * tsN fu) (w0 := wPl Z L) (q0 := j1_) C iX10_text_347 lm_X10_111 yc_X10_text yv_X10_text (ih (q := kdB q) hxb (by simp only [List.length_append] at hl9; omega)) rfl rfl (wPl_at f1_) ((((arrS Z n1 6 (wdA Z) ++ arrS Z n2 6 (wdB Z)) ++ arrS Z n3 5 (wdC Z)) ++ wSo Z n13 y4 (nI (((([] : List Nat) ++ cTx 23) ++ txN n fu (kdA q)) ++ cTx 34).length)) ++ arrB Z y4 c4 b4) [] (by simp only [List.append_assoc, List.append_nil, List.nil_append]) rfl (rmT_le (by omega) (by decide)) (Nat.le_of_ble_eq_true rfl) rfl rfl ?_
          rintro _ _ (⟨j5, hj5, rfl, rfl, e5⟩ | ⟨s5, t5, b5, rfl, rfl, e5⟩)
          · refine J_st (.ref (zsk Z j5) :: .ref n13 :: []) rfl ?_
            refine J_ws (((((arrS Z n1 6 (wdA Z) ++ arrS Z n2 6 (wdB Z)) ++ arrS Z n3 5 (wdC Z)) ++ wSo Z n13 y4 (nI (((([] : List Nat) ++ cTx 23) ++ txN n fu (kdA q)) ++ cTx 34).length)) ++ arrB Z y4 c4 b4) ++ wPl Z L) (by simp only [List.append_assoc, List.append_nil, List.nil_append]) ?_
            refine J_room (rc2 := 1 + (11 + 0 * tcN fu)) (rs2 := 4002 + (14955 + 0 * tsN fu)) (by omega) (by omega) ?_
            refine J_cVb (As := [.ref (zsk Z j5)]) (st := []) (rc2 := 11 + 0 * tcN fu) (rs2 := 14955 + 0 * tsN fu) (w0 := ((wSo Z n13 y4 (nI (((([] : List Nat) ++ cTx 23) ++ txN n fu (kdA q)) ++ cTx 34).length)) ++ arrB Z y4 c4 b4)) (q0 := 0) C iX10_text_350 lm_X10_96 yc_J4_append_15ec4 yv_J4_append_15ec4 (c_J4_append_C (T := (((([] : List Nat) ++ cTx 23) ++ txN n fu (kdA q)) ++ cTx 34)) (i := j5) h4 hj5 (by rw [← e5]; simp only [List.length_append, List.length_nil] at hl9 ⊢; omega)) rfl rfl rfl ((arrS Z n1 6 (wdA Z) ++ arrS Z n2 6 (wdB Z)) ++ arrS Z n3 5 (wdC Z)) (wPl Z L) (by simp only [List.append_assoc, List.append_nil, List.nil_append]) rfl (rmT_m (by decide) (by decide)) (Nat.le_of_ble_eq_true rfl) rfl rfl ?_
            rintro _ _ ⟨rfl, y8, c8, b8, rfl, h8⟩
            refine J_st (.ref n13 :: []) rfl ?_
            refine J_ws (((((arrS Z n1 6 (wdA Z) ++ arrS Z n2 6 (wdB Z)) ++ arrS Z n3 5 (wdC Z)) ++ wSo Z n13 y8 (nI ((((([] : List Nat) ++ cTx 23) ++ txN n fu (kdA q)) ++ cTx 34) ++ cTx j5).length)) ++ arrB Z y8 c8 b8) ++ wPl Z L) (by simp only [List.append_assoc, List.append_nil, List.nil_append]) ?_
            rw [← e5]
            exact hk353_5 (y8, c8, b8) (by rw [e5]; exact h8)
          · refine J_st (.ref s5 :: .ref n13 :: []) rfl ?_
            refine J_ws (((((((arrS Z n1 6 (wdA Z) ++ arrS Z n2 6 (wdB Z)) ++ arrS Z n3 5 (wdC Z)) ++ wSo Z n13 y4 (nI (((([] : List Nat) ++ cTx 23) ++ txN n fu (kdA q)) ++ cTx 34).length)) ++ arrB Z y4 c4 b4) ++ wPl Z L) ++ wTo Z s5 t5) ++ arrB Z t5 ((txN n fu (kdB q)).length) b5) (by simp only [List.append_assoc, List.append_nil, List.nil_append]) ?_
            refine J_perm (((((((arrS Z n1 6 (wdA Z) ++ arrS Z n2 6 (wdB Z)) ++ arrS Z n3 5 (wdC Z)) ++ wSo Z n13 y4 (nI (((([] : List Nat) ++ cTx 23) ++ txN n fu (kdA q)) ++ cTx 34).length)) ++ arrB Z y4 c4 b4) ++ wTo Z s5 t5) ++ wPl Z L) ++ arrB Z t5 ((txN n fu (kdB q)).length) b5) ((sw2 _ _ _).append_right _) ?_
            refine J_perm (((((((arrS Z n1 6 (wdA Z) ++ arrS Z n2 6 (wdB Z)) ++ arrS Z n3 5 (wdC Z)) ++ wSo Z n13 y4 (nI (((([] : List Nat) ++ cTx 23) ++ txN n fu (kdA q)) ++ cTx 34).length)) ++ arrB Z y4 c4 b4) ++ wTo Z s5 t5) ++ arrB Z t5 ((txN n fu (kdB q)).length) b5) ++ wPl Z L) (sw2 _ _ _) ?_
            refine J_room (rc2 := 1 + (11 + 0 * tcN fu)) (rs2 := 4002 + (14955 + 0 * tsN fu)) (by omega) (by omega) ?_
            refine J_cVb (As := [.ref s5]) (st := []) (rc2 := 11 + 0 * tcN fu) (rs2 := 14955 + 0 * tsN fu) (w0 := ((((wSo Z n13 y4 (nI (((([] : List Nat) ++ cTx 23) ++ txN n fu (kdA q)) ++ cTx 34).length)) ++ arrB Z y4 c4 b4) ++ wTo Z s5 t5) ++ arrB Z t5 ((txN n fu (kdB q)).length) b5)) (q0 := 0) C iX10_text_350 lm_X10_96 yc_J4_append_15ec4 yv_J4_append_15ec4 (c_J4_append_D (T := (((([] : List Nat) ++ cTx 23) ++ txN n fu (kdA q)) ++ cTx 34)) (S := txN n fu (kdB q)) h4 e5 (by simp only [List.length_append, List.length_nil] at hl9 ⊢; omega)) rfl rfl rfl ((arrS Z n1 6 (wdA Z) ++ arrS Z n2 6 (wdB Z)) ++ arrS Z n3 5 (wdC Z)) (wPl Z L) (by simp only [List.append_assoc, List.append_nil, List.nil_append]) rfl (rmT_m (by decide) (by decide)) (Nat.le_of_ble_eq_true rfl) rfl rfl ?_
            rintro _ _ ⟨rfl, y9, c9, b9, rfl, h9⟩
            refine J_st (.ref n13 :: []) rfl ?_
            refine J_ws (((((((arrS Z n1 6 (wdA Z) ++ arrS Z n2 6 (wdB Z)) ++ arrS Z n3 5 (wdC Z)) ++ wSo Z n13 y9 (nI ((((([] : List Nat) ++ cTx 23) ++ txN n fu (kdA q)) ++ cTx 34) ++ txN n fu (kdB q)).length)) ++ arrB Z y9 c9 b9) ++ wTo Z s5 t5) ++ arrB Z t5 ((txN n fu (kdB q)).length) b5) ++ wPl Z L) (by simp only [List.append_assoc, List.append_nil, List.nil_append]) ?_
            refine J_drop ((((arrS Z n1 6 (wdA Z) ++ arrS Z n2 6 (wdB Z)) ++ arrS Z n3 5 (wdC Z)) ++ wSo Z n13 y9 (nI ((((([] : List Nat) ++ cTx 23) ++ txN n fu (kdA q)) ++ cTx 34) ++ txN n fu (kdB q)).length)) ++ arrB Z y9 c9 b9) (wTo Z s5 t5 ++ arrB Z t5 ((txN n fu (kdB q)).length) b5) (wPl Z L) (by simp only [List.append_assoc, List.append_nil, List.nil_append]) ?_
            refine J_ws (((((arrS Z n1 6 (wdA Z) ++ arrS Z n2 6 (wdB Z)) ++ arrS Z n3 5 (wdC Z)) ++ wSo Z n13 y9 (nI ((((([] : List Nat) ++ cTx 23) ++ txN n fu (kdA q)) ++ cTx 34) ++ txN n fu (kdB q)).length)) ++ arrB Z y9 c9 b9) ++ wPl Z L) (by simp only [List.append_assoc, List.append_nil, List.nil_append]) ?_
            exact hk353_5 (y9, c9, b9) h9
      · refine J_room (rc2 := (tcN fu) + (14 + 1 * tcN fu)) (rs2 := (tsN fu) + (26961 + 1 * tsN fu)) (by omega) (by omega) ?_
        obtain ⟨j2_, e2_, f2_⟩ := InT.at hxa
        refine J_cVb (As := []) (st := .ref n13 :: []) (rc2 := 14 + 1 * tcN fu) (rs2 := 26961 + 1 * tsN fu) (w0 := wPl Z L) (q0 := j2_) C iX10_text_332 lm_X10_111 yc_X10_text yv_X10_text (ih (q := kdA q) hxa (by simp only [List.length_append] at hl9; omega)) rfl rfl (wPl_at f2_) ((((arrS Z n1 6 (wdA Z) ++ arrS Z n2 6 (wdB Z)) ++ arrS Z n3 5 (wdC Z)) ++ wSo Z n13 y2 (nI (([] : List Nat) ++ cTx 23).length)) ++ arrB Z y2 c2 b2) [] (by simp only [List.append_assoc, List.append_nil, List.nil_append]) rfl (rmT_le (by omega) (by decide)) (Nat.le_of_ble_eq_true rfl) rfl rfl ?_
        rintro _ _ (⟨j3, hj3, rfl, rfl, e3⟩ | ⟨s3, t3, b3, rfl, rfl, e3⟩)
        · refine J_st (.ref (zsk Z j3) :: .ref n13 :: []) rfl ?_
          refine J_ws (((((arrS Z n1 6 (wdA Z) ++ arrS Z n2 6 (wdB Z)) ++ arrS Z n3 5 (wdC Z)) ++ wSo Z n13 y2 (nI (([] : List Nat) ++ cTx 23).length)) ++ arrB Z y2 c2 b2) ++ wPl Z L) (by simp only [List.append_assoc, List.append_nil, List.nil_append]) ?_
          refine J_room (rc2 := 1 + (13 + 1 * tcN fu)) (rs2 := 4002 + (22959 + 1 * tsN fu)) (by omega) (by omega) ?_
          refine J_cVb (As := [.ref (zsk Z j3)]) (st := []) (rc2 := 13 + 1 * tcN fu) (rs2 := 22959 + 1 * tsN fu) (w0 := ((wSo Z n13 y2 (nI (([] : List Nat) ++ cTx 23).length)) ++ arrB Z y2 c2 b2)) (q0 := 0) C iX10_text_335 lm_X10_96 yc_J4_append_15ec4 yv_J4_append_15ec4 (c_J4_append_C (T := (([] : List Nat) ++ cTx 23)) (i := j3) h2 hj3 (by rw [← e3]; simp only [List.length_append, List.length_nil] at hl9 ⊢; omega)) rfl rfl rfl ((arrS Z n1 6 (wdA Z) ++ arrS Z n2 6 (wdB Z)) ++ arrS Z n3 5 (wdC Z)) (wPl Z L) (by simp only [List.append_assoc, List.append_nil, List.nil_append]) rfl (rmT_m (by decide) (by decide)) (Nat.le_of_ble_eq_true rfl) rfl rfl ?_
          rintro _ _ ⟨rfl, y10, c10, b10, rfl, h10⟩
          refine J_st (.ref n13 :: []) rfl ?_
          refine J_ws (((((arrS Z n1 6 (wdA Z) ++ arrS Z n2 6 (wdB Z)) ++ arrS Z n3 5 (wdC Z)) ++ wSo Z n13 y10 (nI ((([] : List Nat) ++ cTx 23) ++ cTx j3).length)) ++ arrB Z y10 c10 b10) ++ wPl Z L) (by simp only [List.append_assoc, List.append_nil, List.nil_append]) ?_
          rw [← e3]
          exact hk338_3 (y10, c10, b10) (by rw [e3]; exact h10)
        · refine J_st (.ref s3 :: .ref n13 :: []) rfl ?_
          refine J_ws (((((((arrS Z n1 6 (wdA Z) ++ arrS Z n2 6 (wdB Z)) ++ arrS Z n3 5 (wdC Z)) ++ wSo Z n13 y2 (nI (([] : List Nat) ++ cTx 23).length)) ++ arrB Z y2 c2 b2) ++ wPl Z L) ++ wTo Z s3 t3) ++ arrB Z t3 ((txN n fu (kdA q)).length) b3) (by simp only [List.append_assoc, List.append_nil, List.nil_append]) ?_
          refine J_perm (((((((arrS Z n1 6 (wdA Z) ++ arrS Z n2 6 (wdB Z)) ++ arrS Z n3 5 (wdC Z)) ++ wSo Z n13 y2 (nI (([] : List Nat) ++ cTx 23).length)) ++ arrB Z y2 c2 b2) ++ wTo Z s3 t3) ++ wPl Z L) ++ arrB Z t3 ((txN n fu (kdA q)).length) b3) ((sw2 _ _ _).append_right _) ?_
          refine J_perm (((((((arrS Z n1 6 (wdA Z) ++ arrS Z n2 6 (wdB Z)) ++ arrS Z n3 5 (wdC Z)) ++ wSo Z n13 y2 (nI (([] : List Nat) ++ cTx 23).length)) ++ arrB Z y2 c2 b2) ++ wTo Z s3 t3) ++ arrB Z t3 ((txN n fu (kdA q)).length) b3) ++ wPl Z L) (sw2 _ _ _) ?_
          refine J_room (rc2 := 1 + (13 + 1 * tcN fu)) (rs2 := 4002 + (22959 + 1 * tsN fu)) (by omega) (by omega) ?_
          refine J_cVb (As := [.ref s3]) (st := []) (rc2 := 13 + 1 * tcN fu) (rs2 := 22959 + 1 * tsN fu) (w0 := ((((wSo Z n13 y2 (nI (([] : List Nat) ++ cTx 23).length)) ++ arrB Z y2 c2 b2) ++ wTo Z s3 t3) ++ arrB Z t3 ((txN n fu (kdA q)).length) b3)) (q0 := 0) C iX10_text_335 lm_X10_96 yc_J4_append_15ec4 yv_J4_append_15ec4 (c_J4_append_D (T := (([] : List Nat) ++ cTx 23)) (S := txN n fu (kdA q)) h2 e3 (by simp only [List.length_append, List.length_nil] at hl9 ⊢; omega)) rfl rfl rfl ((arrS Z n1 6 (wdA Z) ++ arrS Z n2 6 (wdB Z)) ++ arrS Z n3 5 (wdC Z)) (wPl Z L) (by simp only [List.append_assoc, List.append_nil, List.nil_append]) rfl (rmT_m (by decide) (by decide)) (Nat.le_of_ble_eq_true rfl) rfl rfl ?_
          rintro _ _ ⟨rfl, y11, c11, b11, rfl, h11⟩
          refine J_st (.ref n13 :: []) rfl ?_
          refine J_ws (((((((arrS Z n1 6 (wdA Z) ++ arrS Z n2 6 (wdB Z)) ++ arrS Z n3 5 (wdC Z)) ++ wSo Z n13 y11 (nI ((([] : List Nat) ++ cTx 23) ++ txN n fu (kdA q)).length)) ++ arrB Z y11 c11 b11) ++ wTo Z s3 t3) ++ arrB Z t3 ((txN n fu (kdA q)).length) b3) ++ wPl Z L) (by simp only [List.append_assoc, List.append_nil, List.nil_append]) ?_
          refine J_drop ((((arrS Z n1 6 (wdA Z) ++ arrS Z n2 6 (wdB Z)) ++ arrS Z n3 5 (wdC Z)) ++ wSo Z n13 y11 (nI ((([] : List Nat) ++ cTx 23) ++ txN n fu (kdA q)).length)) ++ arrB Z y11 c11 b11) (wTo Z s3 t3 ++ arrB Z t3 ((txN n fu (kdA q)).length) b3) (wPl Z L) (by simp only [List.append_assoc, List.append_nil, List.nil_append]) ?_
          refine J_ws (((((arrS Z n1 6 (wdA Z) ++ arrS Z n2 6 (wdB Z)) ++ arrS Z n3 5 (wdC Z)) ++ wSo Z n13 y11 (nI ((([] : List Nat) ++ cTx 23) ++ txN n fu (kdA q)).length)) ++ arrB Z y11 c11 b11) ++ wPl Z L) (by simp only [List.append_assoc, List.append_nil, List.nil_append]) ?_
          exact hk338_3 (y11, c11, b11) h11
    · rw [hk] at hi9 hbA hbB
      obtain ⟨xa, rfl, hxa⟩ := hbA rfl
      obtain ⟨xb, rfl, hxb⟩ := hbB rfl
      have htx : txN n (fu + 1) q = (((((([] : List Nat) ++ cTx 24) ++ (txN n fu (kdA q))) ++ cTx 34) ++ (txN n fu (kdB q))) ++ cTx 32) := by rw [txN, tx1, if_neg (by omega), if_neg (by omega), if_neg (by omega), if_neg (by omega), if_neg (by omega), if_neg (by omega), if_neg (by omega), if_neg (by omega), if_neg (by omega), if_neg (by omega), if_neg (by omega), if_neg (by omega), if_pos hk]
      rw [htx] at hl9 ⊢
      refine J_aload_n C iX10_text_102 rfl rfl ?_
      refine J_get (.int 12) ((((arrS Z n1 6 (wdA Z) ++ arrS Z n2 6 (wdB Z)) ++ arrS Z n3 5 (wdC Z))).length + i) C iX10_text_103 gf_X10_7 (mid_at (A := ((arrS Z n1 6 (wdA Z) ++ arrS Z n2 6 (wdB Z)) ++ arrS Z n3 5 (wdC Z))) (M := wPl Z L) (B := []) (by simp only [List.append_assoc, List.append_nil, List.nil_append]) (wPl_at hi9)) rfl ?_
      refine J_ifne 132 C iX10_text_106 rfl (fun h106 => ?_) (fun h106 => absurd h106 (by decide))
      refine J_aload_n C iX10_text_132 rfl rfl ?_
      refine J_get (.int 12) ((((arrS Z n1 6 (wdA Z) ++ arrS Z n2 6 (wdB Z)) ++ arrS Z n3 5 (wdC Z))).length + i) C iX10_text_133 gf_X10_7 (mid_at (A := ((arrS Z n1 6 (wdA Z) ++ arrS Z n2 6 (wdB Z)) ++ arrS Z n3 5 (wdC Z))) (M := wPl Z L) (B := []) (by simp only [List.append_assoc, List.append_nil, List.nil_append]) (wPl_at hi9)) rfl ?_
      refine J_iconst 3 C iX10_text_136 rfl ?_
      refine J_icmpge 147 C iX10_text_137 rfl (fun h137 => ?_) (fun h137 => absurd (by decide) h137)
      refine J_aload_n C iX10_text_147 rfl rfl ?_
      refine J_get (.int 12) ((((arrS Z n1 6 (wdA Z) ++ arrS Z n2 6 (wdB Z)) ++ arrS Z n3 5 (wdC Z))).length + i) C iX10_text_148 gf_X10_7 (mid_at (A := ((arrS Z n1 6 (wdA Z) ++ arrS Z n2 6 (wdB Z)) ++ arrS Z n3 5 (wdC Z))) (M := wPl Z L) (B := []) (by simp only [List.append_assoc, List.append_nil, List.nil_append]) (wPl_at hi9)) rfl ?_
      refine J_bipush 6 C iX10_text_151 rfl ?_
      refine J_icmpge 188 C iX10_text_153 rfl (fun h153 => ?_) (fun h153 => absurd (by decide) h153)
      refine J_aload_n C iX10_text_188 rfl rfl ?_
      refine J_get (.int 12) ((((arrS Z n1 6 (wdA Z) ++ arrS Z n2 6 (wdB Z)) ++ arrS Z n3 5 (wdC Z))).length + i) C iX10_text_189 gf_X10_7 (mid_at (A := ((arrS Z n1 6 (wdA Z) ++ arrS Z n2 6 (wdB Z)) ++ arrS Z n3 5 (wdC Z))) (M := wPl Z L) (B := []) (by simp only [List.append_assoc, List.append_nil, List.nil_append]) (wPl_at hi9)) rfl ?_
      refine J_bipush 6 C iX10_text_192 rfl ?_
      refine J_icmpne 228 C iX10_text_194 rfl (fun h194 => ?_) (fun h194 => absurd h194 (by decide))
      refine J_aload_n C iX10_text_228 rfl rfl ?_
      refine J_get (.int 12) ((((arrS Z n1 6 (wdA Z) ++ arrS Z n2 6 (wdB Z)) ++ arrS Z n3 5 (wdC Z))).length + i) C iX10_text_229 gf_X10_7 (mid_at (A := ((arrS Z n1 6 (wdA Z) ++ arrS Z n2 6 (wdB Z)) ++ arrS Z n3 5 (wdC Z))) (M := wPl Z L) (B := []) (by simp only [List.append_assoc, List.append_nil, List.nil_append]) (wPl_at hi9)) rfl ?_
      refine J_bipush 11 C iX10_text_232 rfl ?_
      refine J_icmpge 300 C iX10_text_234 rfl (fun h234 => ?_) (fun h234 => absurd (by decide) h234)
      refine J_aload_n C iX10_text_300 rfl rfl ?_
      refine J_get (.int 12) ((((arrS Z n1 6 (wdA Z) ++ arrS Z n2 6 (wdB Z)) ++ arrS Z n3 5 (wdC Z))).length + i) C iX10_text_301 gf_X10_7 (mid_at (A := ((arrS Z n1 6 (wdA Z) ++ arrS Z n2 6 (wdB Z)) ++ arrS Z n3 5 (wdC Z))) (M := wPl Z L) (B := []) (by simp only [List.append_assoc, List.append_nil, List.nil_append]) (wPl_at hi9)) rfl ?_
      refine J_bipush 13 C iX10_text_304 rfl ?_
      refine J_icmpge 362 C iX10_text_306 rfl (fun h306 => absurd h306 (by decide)) (fun h306 => ?_)
      refine J_room (rc2 := 1 + (16 + 2 * tcN fu)) (rs2 := 4 + (30979 + 2 * tsN fu)) (by omega) (by omega) ?_
      refine J_new (ci := 11) [.null, .int 0, .int 0, .int 0] tyJ4 C iX10_text_309 rfl lay_J4 tyJ4_ok (tsg_in (i := 1410) (by decide +kernel) rfl) (tsg_in (i := 1411) (by decide +kernel) rfl) (tsg_in (i := 45) (by decide +kernel) rfl) df_J4 (fun n14 => ?_)
      refine J_ws ((((arrS Z n1 6 (wdA Z) ++ arrS Z n2 6 (wdB Z)) ++ arrS Z n3 5 (wdC Z)) ++ wPl Z L) ++ wS0 Z n14) rfl ?_
      refine J_perm ((((arrS Z n1 6 (wdA Z) ++ arrS Z n2 6 (wdB Z)) ++ arrS Z n3 5 (wdC Z)) ++ wS0 Z n14) ++ wPl Z L) (sw2 _ _ _) ?_
      refine J_dup C iX10_text_312 rfl ?_
      refine J_room (rc2 := 1 + (15 + 2 * tcN fu)) (rs2 := 16 + (30963 + 2 * tsN fu)) (by omega) (by omega) ?_
      refine J_cIb (As := []) (st := .ref n14 :: []) (rc2 := 15 + 2 * tcN fu) (rs2 := 30963 + 2 * tsN fu) (w0 := (wS0 Z n14)) C iX10_text_313 lm_X10_95 yc_J4_init_da8c8 yi_J4_init_da8c8 c_J4_init_da8c8 ((arrS Z n1 6 (wdA Z) ++ arrS Z n2 6 (wdB Z)) ++ arrS Z n3 5 (wdC Z)) (wPl Z L) (by simp only [List.append_assoc, List.append_nil, List.nil_append]) rfl (rmT_m (by decide) (by decide)) (Nat.le_of_ble_eq_true rfl) rfl rfl ?_
      rintro _ _ ⟨rfl, q1, rfl⟩
      refine J_st (.ref n14 :: []) rfl ?_
      refine J_ws (((((arrS Z n1 6 (wdA Z) ++ arrS Z n2 6 (wdB Z)) ++ arrS Z n3 5 (wdC Z)) ++ wSo Z n14 q1 0) ++ arrB Z q1 16 (fun _ => 0)) ++ wPl Z L) (by simp only [List.append_assoc, List.append_nil, List.nil_append]) ?_
      refine J_aload_n C iX10_text_316 rfl rfl ?_
      refine J_aload_n C iX10_text_317 rfl rfl ?_
      refine J_get (.int 12) ((((((arrS Z n1 6 (wdA Z) ++ arrS Z n2 6 (wdB Z)) ++ arrS Z n3 5 (wdC Z)) ++ wSo Z n14 q1 0) ++ arrB Z q1 16 (fun _ => 0))).length + i) C iX10_text_318 gf_X10_7 (mid_at (A := ((((arrS Z n1 6 (wdA Z) ++ arrS Z n2 6 (wdB Z)) ++ arrS Z n3 5 (wdC Z)) ++ wSo Z n14 q1 0) ++ arrB Z q1 16 (fun _ => 0))) (M := wPl Z L) (B := []) (by simp only [List.append_assoc, List.append_nil, List.nil_append]) (wPl_at hi9)) rfl ?_
      refine J_bipush 7 C iX10_text_321 rfl ?_
      refine J_isub C iX10_text_323 ?_
      rw [show (12 - 7 : Int32) = 5 from rfl]
      refine J_aaldS 1 C iX10_text_324 rfl (vp_in_nI (n := 5) (by decide) (by decide)) ?_
      rw [show Int32.toNatClampNeg 5 = 5 from rfl]
      refine J_st (.ref (zsk Z 24) :: .ref n14 :: []) rfl ?_
      refine J_room (rc2 := 1 + (14 + 2 * tcN fu)) (rs2 := 4002 + (26961 + 2 * tsN fu)) (by omega) (by omega) ?_
      refine J_cVb (As := [.ref (zsk Z 24)]) (st := []) (rc2 := 14 + 2 * tcN fu) (rs2 := 26961 + 2 * tsN fu) (w0 := (wSo Z n14 q1 0 ++ arrB Z q1 16 (fun _ => 0))) (q0 := 0) C iX10_text_325 lm_X10_96 yc_J4_append_15ec4 yv_J4_append_15ec4 (c_J4_append_C (T := ([] : List Nat)) (i := 24) sb_new (by decide) (by simp only [List.length_append, List.length_nil] at hl9 ⊢; omega)) rfl rfl rfl ((arrS Z n1 6 (wdA Z) ++ arrS Z n2 6 (wdB Z)) ++ arrS Z n3 5 (wdC Z)) (wPl Z L) (by simp only [List.append_assoc, List.append_nil, List.nil_append]) rfl (rmT_m (by decide) (by decide)) (Nat.le_of_ble_eq_true rfl) rfl rfl ?_
      rintro _ _ ⟨rfl, y2, c2, b2, rfl, h2⟩
      refine J_st (.ref n14 :: []) rfl ?_
      refine J_ws (((((arrS Z n1 6 (wdA Z) ++ arrS Z n2 6 (wdB Z)) ++ arrS Z n3 5 (wdC Z)) ++ wSo Z n14 y2 (nI (([] : List Nat) ++ cTx 24).length)) ++ arrB Z y2 c2 b2) ++ wPl Z L) (by simp only [List.append_assoc, List.append_nil, List.nil_append]) ?_
      refine J_aload_n C iX10_text_328 rfl rfl ?_
      refine J_get (.ref xa) ((((((arrS Z n1 6 (wdA Z) ++ arrS Z n2 6 (wdB Z)) ++ arrS Z n3 5 (wdC Z)) ++ wSo Z n14 y2 (nI (([] : List Nat) ++ cTx 24).length)) ++ arrB Z y2 c2 b2)).length + i) C iX10_text_329 gf_X10_36 (mid_at (A := ((((arrS Z n1 6 (wdA Z) ++ arrS Z n2 6 (wdB Z)) ++ arrS Z n3 5 (wdC Z)) ++ wSo Z n14 y2 (nI (([] : List Nat) ++ cTx 24).length)) ++ arrB Z y2 c2 b2)) (M := wPl Z L) (B := []) (by simp only [List.append_assoc, List.append_nil, List.nil_append]) (wPl_at hi9)) rfl ?_
      refine J_alt (ι := Nat × Nat × (Nat → Int32)) (P := fun i9 => SbT ((([] : List Nat) ++ cTx 24) ++ txN n fu (kdA q)) i9.2.1 i9.2.2) (13 + 1 * tcN fu) (22959 + 1 * tsN fu) 338 (fun _ => [(3, .ref n3), (2, .ref n2), (1, .ref n1), (0, .ref a)]) (fun _ => .ref n14 :: []) (fun i9 => (((((arrS Z n1 6 (wdA Z) ++ arrS Z n2 6 (wdB Z)) ++ arrS Z n3 5 (wdC Z)) ++ wSo Z n14 i9.1 (nI ((([] : List Nat) ++ cTx 24) ++ txN n fu (kdA q)).length)) ++ arrB Z i9.1 i9.2.1 i9.2.2) ++ wPl Z L)) (fun i9 hi9_ => ?_) (fun hk338_3 => ?_)
      · obtain ⟨z3, k3, m3⟩ := i9
        have g3 : SbT ((([] : List Nat) ++ cTx 24) ++ txN n fu (kdA q)) k3 m3 := hi9_
        refine J_ws (((((arrS Z n1 6 (wdA Z) ++ arrS Z n2 6 (wdB Z)) ++ arrS Z n3 5 (wdC Z)) ++ wSo Z n14 z3 (nI ((([] : List Nat) ++ cTx 24) ++ txN n fu (kdA q)).length)) ++ arrB Z z3 k3 m3) ++ wPl Z L) rfl ?_
        refine J_ldcS 34 C iX10_text_338 rfl ?_
        refine J_room (rc2 := 1 + (12 + 1 * tcN fu)) (rs2 := 4002 + (18957 + 1 * tsN fu)) (by omega) (by omega) ?_
        refine J_cVb (As := [.ref (zsk Z 34)]) (st := []) (rc2 := 12 + 1 * tcN fu) (rs2 := 18957 + 1 * tsN fu) (w0 := ((wSo Z n14 z3 (nI ((([] : List Nat) ++ cTx 24) ++ txN n fu (kdA q)).length)) ++ arrB Z z3 k3 m3)) (q0 := 0) C iX10_text_340 lm_X10_96 yc_J4_append_15ec4 yv_J4_append_15ec4 (c_J4_append_C (T := ((([] : List Nat) ++ cTx 24) ++ txN n fu (kdA q))) (i := 34) g3 (by decide) (by simp only [List.length_append, List.length_nil] at hl9 ⊢; omega)) rfl rfl rfl ((arrS Z n1 6 (wdA Z) ++ arrS Z n2 6 (wdB Z)) ++ arrS Z n3 5 (wdC Z)) (wPl Z L) (by simp only [List.append_assoc, List.append_nil, List.nil_append]) rfl (rmT_m (by decide) (by decide)) (Nat.le_of_ble_eq_true rfl) rfl rfl ?_
        rintro _ _ ⟨rfl, y4, c4, b4, rfl, h4⟩
        refine J_st (.ref n14 :: []) rfl ?_
        refine J_ws (((((arrS Z n1 6 (wdA Z) ++ arrS Z n2 6 (wdB Z)) ++ arrS Z n3 5 (wdC Z)) ++ wSo Z n14 y4 (nI (((([] : List Nat) ++ cTx 24) ++ txN n fu (kdA q)) ++ cTx 34).length)) ++ arrB Z y4 c4 b4) ++ wPl Z L) (by simp only [List.append_assoc, List.append_nil, List.nil_append]) ?_
        refine J_aload_n C iX10_text_343 rfl rfl ?_
        refine J_get (.ref xb) ((((((arrS Z n1 6 (wdA Z) ++ arrS Z n2 6 (wdB Z)) ++ arrS Z n3 5 (wdC Z)) ++ wSo Z n14 y4 (nI (((([] : List Nat) ++ cTx 24) ++ txN n fu (kdA q)) ++ cTx 34).length)) ++ arrB Z y4 c4 b4)).length + i) C iX10_text_344 gf_X10_51 (mid_at (A := ((((arrS Z n1 6 (wdA Z) ++ arrS Z n2 6 (wdB Z)) ++ arrS Z n3 5 (wdC Z)) ++ wSo Z n14 y4 (nI (((([] : List Nat) ++ cTx 24) ++ txN n fu (kdA q)) ++ cTx 34).length)) ++ arrB Z y4 c4 b4)) (M := wPl Z L) (B := []) (by simp only [List.append_assoc, List.append_nil, List.nil_append]) (wPl_at hi9)) rfl ?_
        refine J_alt (ι := Nat × Nat × (Nat → Int32)) (P := fun i9 => SbT ((((([] : List Nat) ++ cTx 24) ++ txN n fu (kdA q)) ++ cTx 34) ++ txN n fu (kdB q)) i9.2.1 i9.2.2) (11 + 0 * tcN fu) (14955 + 0 * tsN fu) 353 (fun _ => [(3, .ref n3), (2, .ref n2), (1, .ref n1), (0, .ref a)]) (fun _ => .ref n14 :: []) (fun i9 => (((((arrS Z n1 6 (wdA Z) ++ arrS Z n2 6 (wdB Z)) ++ arrS Z n3 5 (wdC Z)) ++ wSo Z n14 i9.1 (nI ((((([] : List Nat) ++ cTx 24) ++ txN n fu (kdA q)) ++ cTx 34) ++ txN n fu (kdB q)).length)) ++ arrB Z i9.1 i9.2.1 i9.2.2) ++ wPl Z L)) (fun i9 hi9_ => ?_) (fun hk353_5 => ?_)
        · obtain ⟨z5, k5, m5⟩ := i9
          have g5 : SbT ((((([] : List Nat) ++ cTx 24) ++ txN n fu (kdA q)) ++ cTx 34) ++ txN n fu (kdB q)) k5 m5 := hi9_
          refine J_ws (((((arrS Z n1 6 (wdA Z) ++ arrS Z n2 6 (wdB Z)) ++ arrS Z n3 5 (wdC Z)) ++ wSo Z n14 z5 (nI ((((([] : List Nat) ++ cTx 24) ++ txN n fu (kdA q)) ++ cTx 34) ++ txN n fu (kdB q)).length)) ++ arrB Z z5 k5 m5) ++ wPl Z L) rfl ?_
          refine J_ldcS 32 C iX10_text_353 rfl ?_
          refine J_room (rc2 := 1 + (10 + 0 * tcN fu)) (rs2 := 4002 + (10953 + 0 * tsN fu)) (by omega) (by omega) ?_
          refine J_cVb (As := [.ref (zsk Z 32)]) (st := []) (rc2 := 10 + 0 * tcN fu) (rs2 := 10953 + 0 * tsN fu) (w0 := ((wSo Z n14 z5 (nI ((((([] : List Nat) ++ cTx 24) ++ txN n fu (kdA q)) ++ cTx 34) ++ txN n fu (kdB q)).length)) ++ arrB Z z5 k5 m5)) (q0 := 0) C iX10_text_355 lm_X10_96 yc_J4_append_15ec4 yv_J4_append_15ec4 (c_J4_append_C (T := ((((([] : List Nat) ++ cTx 24) ++ txN n fu (kdA q)) ++ cTx 34) ++ txN n fu (kdB q))) (i := 32) g5 (by decide) (by simp only [List.length_append, List.length_nil] at hl9 ⊢; omega)) rfl rfl rfl ((arrS Z n1 6 (wdA Z) ++ arrS Z n2 6 (wdB Z)) ++ arrS Z n3 5 (wdC Z)) (wPl Z L) (by simp only [List.append_assoc, List.append_nil, List.nil_append]) rfl (rmT_m (by decide) (by decide)) (Nat.le_of_ble_eq_true rfl) rfl rfl ?_
          rintro _ _ ⟨rfl, y6, c6, b6, rfl, h6⟩
          refine J_st (.ref n14 :: []) rfl ?_
          refine J_ws (((((arrS Z n1 6 (wdA Z) ++ arrS Z n2 6 (wdB Z)) ++ arrS Z n3 5 (wdC Z)) ++ wSo Z n14 y6 (nI (((((([] : List Nat) ++ cTx 24) ++ txN n fu (kdA q)) ++ cTx 34) ++ txN n fu (kdB q)) ++ cTx 32).length)) ++ arrB Z y6 c6 b6) ++ wPl Z L) (by simp only [List.append_assoc, List.append_nil, List.nil_append]) ?_
          refine J_room (rc2 := 2 + (8 + 0 * tcN fu)) (rs2 := 2004 + (8949 + 0 * tsN fu)) (by omega) (by omega) ?_
          refine J_cVb (As := []) (st := []) (rc2 := 8 + 0 * tcN fu) (rs2 := 8949 + 0 * tsN fu) (w0 := ((wSo Z n14 y6 (nI (((((([] : List Nat) ++ cTx 24) ++ txN n fu (kdA q)) ++ cTx 34) ++ txN n fu (kdB q)) ++ cTx 32).length)) ++ arrB Z y6 c6 b6)) (q0 := 0) C iX10_text_358 lm_X10_103 yc_J4_toString_0e30d yv_J4_toString_0e30d (c_J4_toString_0e30d (T := (((((([] : List Nat) ++ cTx 24) ++ txN n fu (kdA q)) ++ cTx 34) ++ txN n fu (kdB q)) ++ cTx 32)) h6 (by simp only [List.length_append, List.length_nil] at hl9 ⊢; omega)) rfl rfl rfl ((arrS Z n1 6 (wdA Z) ++ arrS Z n2 6 (wdB Z)) ++ arrS Z n3 5 (wdC Z)) (wPl Z L) (by simp only [List.append_assoc, List.append_nil, List.nil_append]) rfl (rmT_m (by decide) (by decide)) (Nat.le_of_ble_eq_true rfl) rfl rfl ?_
          rintro _ _ ⟨s7, t7, b7, rfl, rfl, h7⟩
          refine J_st (.ref s7 :: []) rfl ?_
          refine J_ws (((((((arrS Z n1 6 (wdA Z) ++ arrS Z n2 6 (wdB Z)) ++ arrS Z n3 5 (wdC Z)) ++ wTo Z s7 t7) ++ wSo Z n14 y6 (nI (((((([] : List Nat) ++ cTx 24) ++ txN n fu (kdA q)) ++ cTx 34) ++ txN n fu (kdB q)) ++ cTx 32).length)) ++ arrB Z y6 c6 b6) ++ arrB Z t7 ((((((([] : List Nat) ++ cTx 24) ++ txN n fu (kdA q)) ++ cTx 34) ++ txN n fu (kdB q)) ++ cTx 32).length) b7) ++ wPl Z L) (by simp only [List.append_assoc, List.append_nil, List.nil_append]) ?_
          refine J_drop [] ((arrS Z n1 6 (wdA Z) ++ arrS Z n2 6 (wdB Z)) ++ arrS Z n3 5 (wdC Z)) ((((wTo Z s7 t7 ++ wSo Z n14 y6 (nI (((((([] : List Nat) ++ cTx 24) ++ txN n fu (kdA q)) ++ cTx 34) ++ txN n fu (kdB q)) ++ cTx 32).length)) ++ arrB Z y6 c6 b6) ++ arrB Z t7 ((((((([] : List Nat) ++ cTx 24) ++ txN n fu (kdA q)) ++ cTx 34) ++ txN n fu (kdB q)) ++ cTx 32).length) b7) ++ wPl Z L) (by simp only [List.append_assoc, List.append_nil, List.nil_append]) ?_
          refine J_ws ((((wTo Z s7 t7 ++ wSo Z n14 y6 (nI (((((([] : List Nat) ++ cTx 24) ++ txN n fu (kdA q)) ++ cTx 34) ++ txN n fu (kdB q)) ++ cTx 32).length)) ++ arrB Z y6 c6 b6) ++ arrB Z t7 ((((((([] : List Nat) ++ cTx 24) ++ txN n fu (kdA q)) ++ cTx 34) ++ txN n fu (kdB q)) ++ cTx 32).length) b7) ++ wPl Z L) (by simp only [List.append_assoc, List.append_nil, List.nil_append]) ?_
          refine J_drop (wTo Z s7 t7) ((wSo Z n14 y6 (nI (((((([] : List Nat) ++ cTx 24) ++ txN n fu (kdA q)) ++ cTx 34) ++ txN n fu (kdB q)) ++ cTx 32).length)) ++ arrB Z y6 c6 b6) ((arrB Z t7 ((((((([] : List Nat) ++ cTx 24) ++ txN n fu (kdA q)) ++ cTx 34) ++ txN n fu (kdB q)) ++ cTx 32).length) b7) ++ wPl Z L) (by simp only [List.append_assoc, List.append_nil, List.nil_append]) ?_
          refine J_ws ((wTo Z s7 t7 ++ arrB Z t7 ((((((([] : List Nat) ++ cTx 24) ++ txN n fu (kdA q)) ++ cTx 34) ++ txN n fu (kdB q)) ++ cTx 32).length) b7) ++ wPl Z L) (by simp only [List.append_assoc, List.append_nil, List.nil_append]) ?_
          refine J_perm ((wTo Z s7 t7 ++ wPl Z L) ++ arrB Z t7 ((((((([] : List Nat) ++ cTx 24) ++ txN n fu (kdA q)) ++ cTx 34) ++ txN n fu (kdB q)) ++ cTx 32).length) b7) (sw2 _ _ _) ?_
          refine J_perm ((wPl Z L ++ wTo Z s7 t7) ++ arrB Z t7 ((((((([] : List Nat) ++ cTx 24) ++ txN n fu (kdA q)) ++ cTx 34) ++ txN n fu (kdB q)) ++ cTx 32).length) b7) (List.perm_append_comm.append_right _) ?_
          exact J_aret C E iX10_text_361 (Or.inl ⟨_, rfl⟩) (Or.inr ⟨s7, _, _, rfl, rfl, h7⟩)
        · refine J_room (rc2 := (tcN fu) + (12 + 0 * tcN fu)) (rs2 := (tsN fu) + (18957 + 0 * tsN fu)) (by omega) (by omega) ?_
          obtain ⟨j1_, e1_, f1_⟩ := InT.at hxb
          refine J_cVb (As := []) (st := .ref n14 :: []) (rc2 := 12 + 0 * tcN fu) (rs2 := 18957 + 0 * tsN fu) (w0 := wPl Z L) (q0 := j1_) C iX10_text_347 lm_X10_111 yc_X10_text yv_X10_text (ih (q := kdB q) hxb (by simp only [List.length_append] at hl9; omega)) rfl rfl (wPl_at f1_) ((((arrS Z n1 6 (wdA Z) ++ arrS Z n2 6 (wdB Z)) ++ arrS Z n3 5 (wdC Z)) ++ wSo Z n14 y4 (nI (((([] : List Nat) ++ cTx 24) ++ txN n fu (kdA q)) ++ cTx 34).length)) ++ arrB Z y4 c4 b4) [] (by simp only [List.append_assoc, List.append_nil, List.nil_append]) rfl (rmT_le (by omega) (by decide)) (Nat.le_of_ble_eq_true rfl) rfl rfl ?_
          rintro _ _ (⟨j5, hj5, rfl, rfl, e5⟩ | ⟨s5, t5, b5, rfl, rfl, e5⟩)
          · refine J_st (.ref (zsk Z j5) :: .ref n14 :: []) rfl ?_
            refine J_ws (((((arrS Z n1 6 (wdA Z) ++ arrS Z n2 6 (wdB Z)) ++ arrS Z n3 5 (wdC Z)) ++ wSo Z n14 y4 (nI (((([] : List Nat) ++ cTx 24) ++ txN n fu (kdA q)) ++ cTx 34).length)) ++ arrB Z y4 c4 b4) ++ wPl Z L) (by simp only [List.append_assoc, List.append_nil, List.nil_append]) ?_
            refine J_room (rc2 := 1 + (11 + 0 * tcN fu)) (rs2 := 4002 + (14955 + 0 * tsN fu)) (by omega) (by omega) ?_
            refine J_cVb (As := [.ref (zsk Z j5)]) (st := []) (rc2 := 11 + 0 * tcN fu) (rs2 := 14955 + 0 * tsN fu) (w0 := ((wSo Z n14 y4 (nI (((([] : List Nat) ++ cTx 24) ++ txN n fu (kdA q)) ++ cTx 34).length)) ++ arrB Z y4 c4 b4)) (q0 := 0) C iX10_text_350 lm_X10_96 yc_J4_append_15ec4 yv_J4_append_15ec4 (c_J4_append_C (T := (((([] : List Nat) ++ cTx 24) ++ txN n fu (kdA q)) ++ cTx 34)) (i := j5) h4 hj5 (by rw [← e5]; simp only [List.length_append, List.length_nil] at hl9 ⊢; omega)) rfl rfl rfl ((arrS Z n1 6 (wdA Z) ++ arrS Z n2 6 (wdB Z)) ++ arrS Z n3 5 (wdC Z)) (wPl Z L) (by simp only [List.append_assoc, List.append_nil, List.nil_append]) rfl (rmT_m (by decide) (by decide)) (Nat.le_of_ble_eq_true rfl) rfl rfl ?_
            rintro _ _ ⟨rfl, y8, c8, b8, rfl, h8⟩
            refine J_st (.ref n14 :: []) rfl ?_
            refine J_ws (((((arrS Z n1 6 (wdA Z) ++ arrS Z n2 6 (wdB Z)) ++ arrS Z n3 5 (wdC Z)) ++ wSo Z n14 y8 (nI ((((([] : List Nat) ++ cTx 24) ++ txN n fu (kdA q)) ++ cTx 34) ++ cTx j5).length)) ++ arrB Z y8 c8 b8) ++ wPl Z L) (by simp only [List.append_assoc, List.append_nil, List.nil_append]) ?_
            rw [← e5]
            exact hk353_5 (y8, c8, b8) (by rw [e5]; exact h8)
          · refine J_st (.ref s5 :: .ref n14 :: []) rfl ?_
            refine J_ws (((((((arrS Z n1 6 (wdA Z) ++ arrS Z n2 6 (wdB Z)) ++ arrS Z n3 5 (wdC Z)) ++ wSo Z n14 y4 (nI (((([] : List Nat) ++ cTx 24) ++ txN n fu (kdA q)) ++ cTx 34).length)) ++ arrB Z y4 c4 b4) ++ wPl Z L) ++ wTo Z s5 t5) ++ arrB Z t5 ((txN n fu (kdB q)).length) b5) (by simp only [List.append_assoc, List.append_nil, List.nil_append]) ?_
            refine J_perm (((((((arrS Z n1 6 (wdA Z) ++ arrS Z n2 6 (wdB Z)) ++ arrS Z n3 5 (wdC Z)) ++ wSo Z n14 y4 (nI (((([] : List Nat) ++ cTx 24) ++ txN n fu (kdA q)) ++ cTx 34).length)) ++ arrB Z y4 c4 b4) ++ wTo Z s5 t5) ++ wPl Z L) ++ arrB Z t5 ((txN n fu (kdB q)).length) b5) ((sw2 _ _ _).append_right _) ?_
            refine J_perm (((((((arrS Z n1 6 (wdA Z) ++ arrS Z n2 6 (wdB Z)) ++ arrS Z n3 5 (wdC Z)) ++ wSo Z n14 y4 (nI (((([] : List Nat) ++ cTx 24) ++ txN n fu (kdA q)) ++ cTx 34).length)) ++ arrB Z y4 c4 b4) ++ wTo Z s5 t5) ++ arrB Z t5 ((txN n fu (kdB q)).length) b5) ++ wPl Z L) (sw2 _ _ _) ?_
            refine J_room (rc2 := 1 + (11 + 0 * tcN fu)) (rs2 := 4002 + (14955 + 0 * tsN fu)) (by omega) (by omega) ?_
            refine J_cVb (As := [.ref s5]) (st := []) (rc2 := 11 + 0 * tcN fu) (rs2 := 14955 + 0 * tsN fu) (w0 := ((((wSo Z n14 y4 (nI (((([] : List Nat) ++ cTx 24) ++ txN n fu (kdA q)) ++ cTx 34).length)) ++ arrB Z y4 c4 b4) ++ wTo Z s5 t5) ++ arrB Z t5 ((txN n fu (kdB q)).length) b5)) (q0 := 0) C iX10_text_350 lm_X10_96 yc_J4_append_15ec4 yv_J4_append_15ec4 (c_J4_append_D (T := (((([] : List Nat) ++ cTx 24) ++ txN n fu (kdA q)) ++ cTx 34)) (S := txN n fu (kdB q)) h4 e5 (by simp only [List.length_append, List.length_nil] at hl9 ⊢; omega)) rfl rfl rfl ((arrS Z n1 6 (wdA Z) ++ arrS Z n2 6 (wdB Z)) ++ arrS Z n3 5 (wdC Z)) (wPl Z L) (by simp only [List.append_assoc, List.append_nil, List.nil_append]) rfl (rmT_m (by decide) (by decide)) (Nat.le_of_ble_eq_true rfl) rfl rfl ?_
            rintro _ _ ⟨rfl, y9, c9, b9, rfl, h9⟩
            refine J_st (.ref n14 :: []) rfl ?_
            refine J_ws (((((((arrS Z n1 6 (wdA Z) ++ arrS Z n2 6 (wdB Z)) ++ arrS Z n3 5 (wdC Z)) ++ wSo Z n14 y9 (nI ((((([] : List Nat) ++ cTx 24) ++ txN n fu (kdA q)) ++ cTx 34) ++ txN n fu (kdB q)).length)) ++ arrB Z y9 c9 b9) ++ wTo Z s5 t5) ++ arrB Z t5 ((txN n fu (kdB q)).length) b5) ++ wPl Z L) (by simp only [List.append_assoc, List.append_nil, List.nil_append]) ?_
            refine J_drop ((((arrS Z n1 6 (wdA Z) ++ arrS Z n2 6 (wdB Z)) ++ arrS Z n3 5 (wdC Z)) ++ wSo Z n14 y9 (nI ((((([] : List Nat) ++ cTx 24) ++ txN n fu (kdA q)) ++ cTx 34) ++ txN n fu (kdB q)).length)) ++ arrB Z y9 c9 b9) (wTo Z s5 t5 ++ arrB Z t5 ((txN n fu (kdB q)).length) b5) (wPl Z L) (by simp only [List.append_assoc, List.append_nil, List.nil_append]) ?_
            refine J_ws (((((arrS Z n1 6 (wdA Z) ++ arrS Z n2 6 (wdB Z)) ++ arrS Z n3 5 (wdC Z)) ++ wSo Z n14 y9 (nI ((((([] : List Nat) ++ cTx 24) ++ txN n fu (kdA q)) ++ cTx 34) ++ txN n fu (kdB q)).length)) ++ arrB Z y9 c9 b9) ++ wPl Z L) (by simp only [List.append_assoc, List.append_nil, List.nil_append]) ?_
            exact hk353_5 (y9, c9, b9) h9
      · refine J_room (rc2 := (tcN fu) + (14 + 1 * tcN fu)) (rs2 := (tsN fu) + (26961 + 1 * tsN fu)) (by omega) (by omega) ?_
        obtain ⟨j2_, e2_, f2_⟩ := InT.at hxa
        refine J_cVb (As := []) (st := .ref n14 :: []) (rc2 := 14 + 1 * tcN fu) (rs2 := 26961 + 1 * tsN fu) (w0 := wPl Z L) (q0 := j2_) C iX10_text_332 lm_X10_111 yc_X10_text yv_X10_text (ih (q := kdA q) hxa (by simp only [List.length_append] at hl9; omega)) rfl rfl (wPl_at f2_) ((((arrS Z n1 6 (wdA Z) ++ arrS Z n2 6 (wdB Z)) ++ arrS Z n3 5 (wdC Z)) ++ wSo Z n14 y2 (nI (([] : List Nat) ++ cTx 24).length)) ++ arrB Z y2 c2 b2) [] (by simp only [List.append_assoc, List.append_nil, List.nil_append]) rfl (rmT_le (by omega) (by decide)) (Nat.le_of_ble_eq_true rfl) rfl rfl ?_
        rintro _ _ (⟨j3, hj3, rfl, rfl, e3⟩ | ⟨s3, t3, b3, rfl, rfl, e3⟩)
        · refine J_st (.ref (zsk Z j3) :: .ref n14 :: []) rfl ?_
          refine J_ws (((((arrS Z n1 6 (wdA Z) ++ arrS Z n2 6 (wdB Z)) ++ arrS Z n3 5 (wdC Z)) ++ wSo Z n14 y2 (nI (([] : List Nat) ++ cTx 24).length)) ++ arrB Z y2 c2 b2) ++ wPl Z L) (by simp only [List.append_assoc, List.append_nil, List.nil_append]) ?_
          refine J_room (rc2 := 1 + (13 + 1 * tcN fu)) (rs2 := 4002 + (22959 + 1 * tsN fu)) (by omega) (by omega) ?_
          refine J_cVb (As := [.ref (zsk Z j3)]) (st := []) (rc2 := 13 + 1 * tcN fu) (rs2 := 22959 + 1 * tsN fu) (w0 := ((wSo Z n14 y2 (nI (([] : List Nat) ++ cTx 24).length)) ++ arrB Z y2 c2 b2)) (q0 := 0) C iX10_text_335 lm_X10_96 yc_J4_append_15ec4 yv_J4_append_15ec4 (c_J4_append_C (T := (([] : List Nat) ++ cTx 24)) (i := j3) h2 hj3 (by rw [← e3]; simp only [List.length_append, List.length_nil] at hl9 ⊢; omega)) rfl rfl rfl ((arrS Z n1 6 (wdA Z) ++ arrS Z n2 6 (wdB Z)) ++ arrS Z n3 5 (wdC Z)) (wPl Z L) (by simp only [List.append_assoc, List.append_nil, List.nil_append]) rfl (rmT_m (by decide) (by decide)) (Nat.le_of_ble_eq_true rfl) rfl rfl ?_
          rintro _ _ ⟨rfl, y10, c10, b10, rfl, h10⟩
          refine J_st (.ref n14 :: []) rfl ?_
          refine J_ws (((((arrS Z n1 6 (wdA Z) ++ arrS Z n2 6 (wdB Z)) ++ arrS Z n3 5 (wdC Z)) ++ wSo Z n14 y10 (nI ((([] : List Nat) ++ cTx 24) ++ cTx j3).length)) ++ arrB Z y10 c10 b10) ++ wPl Z L) (by simp only [List.append_assoc, List.append_nil, List.nil_append]) ?_
          rw [← e3]
          exact hk338_3 (y10, c10, b10) (by rw [e3]; exact h10)
        · refine J_st (.ref s3 :: .ref n14 :: []) rfl ?_
          refine J_ws (((((((arrS Z n1 6 (wdA Z) ++ arrS Z n2 6 (wdB Z)) ++ arrS Z n3 5 (wdC Z)) ++ wSo Z n14 y2 (nI (([] : List Nat) ++ cTx 24).length)) ++ arrB Z y2 c2 b2) ++ wPl Z L) ++ wTo Z s3 t3) ++ arrB Z t3 ((txN n fu (kdA q)).length) b3) (by simp only [List.append_assoc, List.append_nil, List.nil_append]) ?_
          refine J_perm (((((((arrS Z n1 6 (wdA Z) ++ arrS Z n2 6 (wdB Z)) ++ arrS Z n3 5 (wdC Z)) ++ wSo Z n14 y2 (nI (([] : List Nat) ++ cTx 24).length)) ++ arrB Z y2 c2 b2) ++ wTo Z s3 t3) ++ wPl Z L) ++ arrB Z t3 ((txN n fu (kdA q)).length) b3) ((sw2 _ _ _).append_right _) ?_
          refine J_perm (((((((arrS Z n1 6 (wdA Z) ++ arrS Z n2 6 (wdB Z)) ++ arrS Z n3 5 (wdC Z)) ++ wSo Z n14 y2 (nI (([] : List Nat) ++ cTx 24).length)) ++ arrB Z y2 c2 b2) ++ wTo Z s3 t3) ++ arrB Z t3 ((txN n fu (kdA q)).length) b3) ++ wPl Z L) (sw2 _ _ _) ?_
          refine J_room (rc2 := 1 + (13 + 1 * tcN fu)) (rs2 := 4002 + (22959 + 1 * tsN fu)) (by omega) (by omega) ?_
          refine J_cVb (As := [.ref s3]) (st := []) (rc2 := 13 + 1 * tcN fu) (rs2 := 22959 + 1 * tsN fu) (w0 := ((((wSo Z n14 y2 (nI (([] : List Nat) ++ cTx 24).length)) ++ arrB Z y2 c2 b2) ++ wTo Z s3 t3) ++ arrB Z t3 ((txN n fu (kdA q)).length) b3)) (q0 := 0) C iX10_text_335 lm_X10_96 yc_J4_append_15ec4 yv_J4_append_15ec4 (c_J4_append_D (T := (([] : List Nat) ++ cTx 24)) (S := txN n fu (kdA q)) h2 e3 (by simp only [List.length_append, List.length_nil] at hl9 ⊢; omega)) rfl rfl rfl ((arrS Z n1 6 (wdA Z) ++ arrS Z n2 6 (wdB Z)) ++ arrS Z n3 5 (wdC Z)) (wPl Z L) (by simp only [List.append_assoc, List.append_nil, List.nil_append]) rfl (rmT_m (by decide) (by decide)) (Nat.le_of_ble_eq_true rfl) rfl rfl ?_
          rintro _ _ ⟨rfl, y11, c11, b11, rfl, h11⟩
          refine J_st (.ref n14 :: []) rfl ?_
          refine J_ws (((((((arrS Z n1 6 (wdA Z) ++ arrS Z n2 6 (wdB Z)) ++ arrS Z n3 5 (wdC Z)) ++ wSo Z n14 y11 (nI ((([] : List Nat) ++ cTx 24) ++ txN n fu (kdA q)).length)) ++ arrB Z y11 c11 b11) ++ wTo Z s3 t3) ++ arrB Z t3 ((txN n fu (kdA q)).length) b3) ++ wPl Z L) (by simp only [List.append_assoc, List.append_nil, List.nil_append]) ?_
          refine J_drop ((((arrS Z n1 6 (wdA Z) ++ arrS Z n2 6 (wdB Z)) ++ arrS Z n3 5 (wdC Z)) ++ wSo Z n14 y11 (nI ((([] : List Nat) ++ cTx 24) ++ txN n fu (kdA q)).length)) ++ arrB Z y11 c11 b11) (wTo Z s3 t3 ++ arrB Z t3 ((txN n fu (kdA q)).length) b3) (wPl Z L) (by simp only [List.append_assoc, List.append_nil, List.nil_append]) ?_
          refine J_ws (((((arrS Z n1 6 (wdA Z) ++ arrS Z n2 6 (wdB Z)) ++ arrS Z n3 5 (wdC Z)) ++ wSo Z n14 y11 (nI ((([] : List Nat) ++ cTx 24) ++ txN n fu (kdA q)).length)) ++ arrB Z y11 c11 b11) ++ wPl Z L) (by simp only [List.append_assoc, List.append_nil, List.nil_append]) ?_
          exact hk338_3 (y11, c11, b11) h11
    · rw [hk] at hi9 hbA hbB
      obtain ⟨xa, rfl, hxa⟩ := hbA rfl
      obtain ⟨xb, rfl, hxb⟩ := hbB rfl
      have htx : txN n (fu + 1) q = (((([] : List Nat) ++ (txN n fu (kdA q))) ++ cTx 25) ++ (txN n fu (kdB q))) := by rw [txN, tx1, if_neg (by omega), if_neg (by omega), if_neg (by omega), if_neg (by omega), if_neg (by omega), if_neg (by omega), if_neg (by omega), if_neg (by omega), if_neg (by omega), if_neg (by omega), if_neg (by omega), if_neg (by omega), if_neg (by omega), if_pos hk]
      rw [htx] at hl9 ⊢
      refine J_aload_n C iX10_text_102 rfl rfl ?_
      refine J_get (.int 20) ((((arrS Z n1 6 (wdA Z) ++ arrS Z n2 6 (wdB Z)) ++ arrS Z n3 5 (wdC Z))).length + i) C iX10_text_103 gf_X10_7 (mid_at (A := ((arrS Z n1 6 (wdA Z) ++ arrS Z n2 6 (wdB Z)) ++ arrS Z n3 5 (wdC Z))) (M := wPl Z L) (B := []) (by simp only [List.append_assoc, List.append_nil, List.nil_append]) (wPl_at hi9)) rfl ?_
      refine J_ifne 132 C iX10_text_106 rfl (fun h106 => ?_) (fun h106 => absurd h106 (by decide))
      refine J_aload_n C iX10_text_132 rfl rfl ?_
      refine J_get (.int 20) ((((arrS Z n1 6 (wdA Z) ++ arrS Z n2 6 (wdB Z)) ++ arrS Z n3 5 (wdC Z))).length + i) C iX10_text_133 gf_X10_7 (mid_at (A := ((arrS Z n1 6 (wdA Z) ++ arrS Z n2 6 (wdB Z)) ++ arrS Z n3 5 (wdC Z))) (M := wPl Z L) (B := []) (by simp only [List.append_assoc, List.append_nil, List.nil_append]) (wPl_at hi9)) rfl ?_
      refine J_iconst 3 C iX10_text_136 rfl ?_
      refine J_icmpge 147 C iX10_text_137 rfl (fun h137 => ?_) (fun h137 => absurd (by decide) h137)
      refine J_aload_n C iX10_text_147 rfl rfl ?_
      refine J_get (.int 20) ((((arrS Z n1 6 (wdA Z) ++ arrS Z n2 6 (wdB Z)) ++ arrS Z n3 5 (wdC Z))).length + i) C iX10_text_148 gf_X10_7 (mid_at (A := ((arrS Z n1 6 (wdA Z) ++ arrS Z n2 6 (wdB Z)) ++ arrS Z n3 5 (wdC Z))) (M := wPl Z L) (B := []) (by simp only [List.append_assoc, List.append_nil, List.nil_append]) (wPl_at hi9)) rfl ?_
      refine J_bipush 6 C iX10_text_151 rfl ?_
      refine J_icmpge 188 C iX10_text_153 rfl (fun h153 => ?_) (fun h153 => absurd (by decide) h153)
      refine J_aload_n C iX10_text_188 rfl rfl ?_
      refine J_get (.int 20) ((((arrS Z n1 6 (wdA Z) ++ arrS Z n2 6 (wdB Z)) ++ arrS Z n3 5 (wdC Z))).length + i) C iX10_text_189 gf_X10_7 (mid_at (A := ((arrS Z n1 6 (wdA Z) ++ arrS Z n2 6 (wdB Z)) ++ arrS Z n3 5 (wdC Z))) (M := wPl Z L) (B := []) (by simp only [List.append_assoc, List.append_nil, List.nil_append]) (wPl_at hi9)) rfl ?_
      refine J_bipush 6 C iX10_text_192 rfl ?_
      refine J_icmpne 228 C iX10_text_194 rfl (fun h194 => ?_) (fun h194 => absurd h194 (by decide))
      refine J_aload_n C iX10_text_228 rfl rfl ?_
      refine J_get (.int 20) ((((arrS Z n1 6 (wdA Z) ++ arrS Z n2 6 (wdB Z)) ++ arrS Z n3 5 (wdC Z))).length + i) C iX10_text_229 gf_X10_7 (mid_at (A := ((arrS Z n1 6 (wdA Z) ++ arrS Z n2 6 (wdB Z)) ++ arrS Z n3 5 (wdC Z))) (M := wPl Z L) (B := []) (by simp only [List.append_assoc, List.append_nil, List.nil_append]) (wPl_at hi9)) rfl ?_
      refine J_bipush 11 C iX10_text_232 rfl ?_
      refine J_icmpge 300 C iX10_text_234 rfl (fun h234 => ?_) (fun h234 => absurd (by decide) h234)
      refine J_aload_n C iX10_text_300 rfl rfl ?_
      refine J_get (.int 20) ((((arrS Z n1 6 (wdA Z) ++ arrS Z n2 6 (wdB Z)) ++ arrS Z n3 5 (wdC Z))).length + i) C iX10_text_301 gf_X10_7 (mid_at (A := ((arrS Z n1 6 (wdA Z) ++ arrS Z n2 6 (wdB Z)) ++ arrS Z n3 5 (wdC Z))) (M := wPl Z L) (B := []) (by simp only [List.append_assoc, List.append_nil, List.nil_append]) (wPl_at hi9)) rfl ?_
      refine J_bipush 13 C iX10_text_304 rfl ?_
      refine J_icmpge 362 C iX10_text_306 rfl (fun h306 => ?_) (fun h306 => absurd (by decide) h306)
      refine J_aload_n C iX10_text_362 rfl rfl ?_
      refine J_get (.int 20) ((((arrS Z n1 6 (wdA Z) ++ arrS Z n2 6 (wdB Z)) ++ arrS Z n3 5 (wdC Z))).length + i) C iX10_text_363 gf_X10_7 (mid_at (A := ((arrS Z n1 6 (wdA Z) ++ arrS Z n2 6 (wdB Z)) ++ arrS Z n3 5 (wdC Z))) (M := wPl Z L) (B := []) (by simp only [List.append_assoc, List.append_nil, List.nil_append]) (wPl_at hi9)) rfl ?_
      refine J_bipush 25 C iX10_text_366 rfl ?_
      refine J_icmpge 414 C iX10_text_368 rfl (fun h368 => absurd h368 (by decide)) (fun h368 => ?_)
      refine J_room (rc2 := 1 + (16 + 2 * tcN fu)) (rs2 := 4 + (30979 + 2 * tsN fu)) (by omega) (by omega) ?_
      refine J_new (ci := 11) [.null, .int 0, .int 0, .int 0] tyJ4 C iX10_text_371 rfl lay_J4 tyJ4_ok (tsg_in (i := 1410) (by decide +kernel) rfl) (tsg_in (i := 1411) (by decide +kernel) rfl) (tsg_in (i := 45) (by decide +kernel) rfl) df_J4 (fun n15 => ?_)
      refine J_ws ((((arrS Z n1 6 (wdA Z) ++ arrS Z n2 6 (wdB Z)) ++ arrS Z n3 5 (wdC Z)) ++ wPl Z L) ++ wS0 Z n15) rfl ?_
      refine J_perm ((((arrS Z n1 6 (wdA Z) ++ arrS Z n2 6 (wdB Z)) ++ arrS Z n3 5 (wdC Z)) ++ wS0 Z n15) ++ wPl Z L) (sw2 _ _ _) ?_
      refine J_dup C iX10_text_374 rfl ?_
      refine J_room (rc2 := 1 + (15 + 2 * tcN fu)) (rs2 := 16 + (30963 + 2 * tsN fu)) (by omega) (by omega) ?_
      refine J_cIb (As := []) (st := .ref n15 :: []) (rc2 := 15 + 2 * tcN fu) (rs2 := 30963 + 2 * tsN fu) (w0 := (wS0 Z n15)) C iX10_text_375 lm_X10_95 yc_J4_init_da8c8 yi_J4_init_da8c8 c_J4_init_da8c8 ((arrS Z n1 6 (wdA Z) ++ arrS Z n2 6 (wdB Z)) ++ arrS Z n3 5 (wdC Z)) (wPl Z L) (by simp only [List.append_assoc, List.append_nil, List.nil_append]) rfl (rmT_m (by decide) (by decide)) (Nat.le_of_ble_eq_true rfl) rfl rfl ?_
      rintro _ _ ⟨rfl, q1, rfl⟩
      refine J_st (.ref n15 :: []) rfl ?_
      refine J_ws (((((arrS Z n1 6 (wdA Z) ++ arrS Z n2 6 (wdB Z)) ++ arrS Z n3 5 (wdC Z)) ++ wSo Z n15 q1 0) ++ arrB Z q1 16 (fun _ => 0)) ++ wPl Z L) (by simp only [List.append_assoc, List.append_nil, List.nil_append]) ?_
      refine J_aload_n C iX10_text_378 rfl rfl ?_
      refine J_get (.ref xa) ((((((arrS Z n1 6 (wdA Z) ++ arrS Z n2 6 (wdB Z)) ++ arrS Z n3 5 (wdC Z)) ++ wSo Z n15 q1 0) ++ arrB Z q1 16 (fun _ => 0))).length + i) C iX10_text_379 gf_X10_36 (mid_at (A := ((((arrS Z n1 6 (wdA Z) ++ arrS Z n2 6 (wdB Z)) ++ arrS Z n3 5 (wdC Z)) ++ wSo Z n15 q1 0) ++ arrB Z q1 16 (fun _ => 0))) (M := wPl Z L) (B := []) (by simp only [List.append_assoc, List.append_nil, List.nil_append]) (wPl_at hi9)) rfl ?_
      refine J_alt (ι := Nat × Nat × (Nat → Int32)) (P := fun i9 => SbT (([] : List Nat) ++ txN n fu (kdA q)) i9.2.1 i9.2.2) (14 + 1 * tcN fu) (26961 + 1 * tsN fu) 388 (fun _ => [(3, .ref n3), (2, .ref n2), (1, .ref n1), (0, .ref a)]) (fun _ => .ref n15 :: []) (fun i9 => (((((arrS Z n1 6 (wdA Z) ++ arrS Z n2 6 (wdB Z)) ++ arrS Z n3 5 (wdC Z)) ++ wSo Z n15 i9.1 (nI (([] : List Nat) ++ txN n fu (kdA q)).length)) ++ arrB Z i9.1 i9.2.1 i9.2.2) ++ wPl Z L)) (fun i9 hi9_ => ?_) (fun hk388_2 => ?_)
      · obtain ⟨z2, k2, m2⟩ := i9
        have g2 : SbT (([] : List Nat) ++ txN n fu (kdA q)) k2 m2 := hi9_
        refine J_ws (((((arrS Z n1 6 (wdA Z) ++ arrS Z n2 6 (wdB Z)) ++ arrS Z n3 5 (wdC Z)) ++ wSo Z n15 z2 (nI (([] : List Nat) ++ txN n fu (kdA q)).length)) ++ arrB Z z2 k2 m2) ++ wPl Z L) rfl ?_
        refine J_aload_n C iX10_text_388 rfl rfl ?_
        refine J_aload_n C iX10_text_389 rfl rfl ?_
        refine J_get (.int 20) ((((((arrS Z n1 6 (wdA Z) ++ arrS Z n2 6 (wdB Z)) ++ arrS Z n3 5 (wdC Z)) ++ wSo Z n15 z2 (nI (([] : List Nat) ++ txN n fu (kdA q)).length)) ++ arrB Z z2 k2 m2)).length + i) C iX10_text_390 gf_X10_7 (mid_at (A := ((((arrS Z n1 6 (wdA Z) ++ arrS Z n2 6 (wdB Z)) ++ arrS Z n3 5 (wdC Z)) ++ wSo Z n15 z2 (nI (([] : List Nat) ++ txN n fu (kdA q)).length)) ++ arrB Z z2 k2 m2)) (M := wPl Z L) (B := []) (by simp only [List.append_assoc, List.append_nil, List.nil_append]) (wPl_at hi9)) rfl ?_
        refine J_bipush 20 C iX10_text_393 rfl ?_
        refine J_isub C iX10_text_395 ?_
        rw [show (20 - 20 : Int32) = 0 from rfl]
        refine J_aaldS 2 C iX10_text_396 rfl (vp_in_nI (n := 0) (by decide) (by decide)) ?_
        rw [show Int32.toNatClampNeg 0 = 0 from rfl]
        refine J_st (.ref (zsk Z 25) :: .ref n15 :: []) rfl ?_
        refine J_room (rc2 := 1 + (13 + 1 * tcN fu)) (rs2 := 4002 + (22959 + 1 * tsN fu)) (by omega) (by omega) ?_
        refine J_cVb (As := [.ref (zsk Z 25)]) (st := []) (rc2 := 13 + 1 * tcN fu) (rs2 := 22959 + 1 * tsN fu) (w0 := ((wSo Z n15 z2 (nI (([] : List Nat) ++ txN n fu (kdA q)).length)) ++ arrB Z z2 k2 m2)) (q0 := 0) C iX10_text_397 lm_X10_96 yc_J4_append_15ec4 yv_J4_append_15ec4 (c_J4_append_C (T := (([] : List Nat) ++ txN n fu (kdA q))) (i := 25) g2 (by decide) (by simp only [List.length_append, List.length_nil] at hl9 ⊢; omega)) rfl rfl rfl ((arrS Z n1 6 (wdA Z) ++ arrS Z n2 6 (wdB Z)) ++ arrS Z n3 5 (wdC Z)) (wPl Z L) (by simp only [List.append_assoc, List.append_nil, List.nil_append]) rfl (rmT_m (by decide) (by decide)) (Nat.le_of_ble_eq_true rfl) rfl rfl ?_
        rintro _ _ ⟨rfl, y3, c3, b3, rfl, h3⟩
        refine J_st (.ref n15 :: []) rfl ?_
        refine J_ws (((((arrS Z n1 6 (wdA Z) ++ arrS Z n2 6 (wdB Z)) ++ arrS Z n3 5 (wdC Z)) ++ wSo Z n15 y3 (nI ((([] : List Nat) ++ txN n fu (kdA q)) ++ cTx 25).length)) ++ arrB Z y3 c3 b3) ++ wPl Z L) (by simp only [List.append_assoc, List.append_nil, List.nil_append]) ?_
        refine J_aload_n C iX10_text_400 rfl rfl ?_
        refine J_get (.ref xb) ((((((arrS Z n1 6 (wdA Z) ++ arrS Z n2 6 (wdB Z)) ++ arrS Z n3 5 (wdC Z)) ++ wSo Z n15 y3 (nI ((([] : List Nat) ++ txN n fu (kdA q)) ++ cTx 25).length)) ++ arrB Z y3 c3 b3)).length + i) C iX10_text_401 gf_X10_51 (mid_at (A := ((((arrS Z n1 6 (wdA Z) ++ arrS Z n2 6 (wdB Z)) ++ arrS Z n3 5 (wdC Z)) ++ wSo Z n15 y3 (nI ((([] : List Nat) ++ txN n fu (kdA q)) ++ cTx 25).length)) ++ arrB Z y3 c3 b3)) (M := wPl Z L) (B := []) (by simp only [List.append_assoc, List.append_nil, List.nil_append]) (wPl_at hi9)) rfl ?_
        refine J_alt (ι := Nat × Nat × (Nat → Int32)) (P := fun i9 => SbT (((([] : List Nat) ++ txN n fu (kdA q)) ++ cTx 25) ++ txN n fu (kdB q)) i9.2.1 i9.2.2) (12 + 0 * tcN fu) (18957 + 0 * tsN fu) 410 (fun _ => [(3, .ref n3), (2, .ref n2), (1, .ref n1), (0, .ref a)]) (fun _ => .ref n15 :: []) (fun i9 => (((((arrS Z n1 6 (wdA Z) ++ arrS Z n2 6 (wdB Z)) ++ arrS Z n3 5 (wdC Z)) ++ wSo Z n15 i9.1 (nI (((([] : List Nat) ++ txN n fu (kdA q)) ++ cTx 25) ++ txN n fu (kdB q)).length)) ++ arrB Z i9.1 i9.2.1 i9.2.2) ++ wPl Z L)) (fun i9 hi9_ => ?_) (fun hk410_4 => ?_)
        · obtain ⟨z4, k4, m4⟩ := i9
          have g4 : SbT (((([] : List Nat) ++ txN n fu (kdA q)) ++ cTx 25) ++ txN n fu (kdB q)) k4 m4 := hi9_
          refine J_ws (((((arrS Z n1 6 (wdA Z) ++ arrS Z n2 6 (wdB Z)) ++ arrS Z n3 5 (wdC Z)) ++ wSo Z n15 z4 (nI (((([] : List Nat) ++ txN n fu (kdA q)) ++ cTx 25) ++ txN n fu (kdB q)).length)) ++ arrB Z z4 k4 m4) ++ wPl Z L) rfl ?_
          refine J_room (rc2 := 2 + (10 + 0 * tcN fu)) (rs2 := 2004 + (16953 + 0 * tsN fu)) (by omega) (by omega) ?_
          refine J_cVb (As := []) (st := []) (rc2 := 10 + 0 * tcN fu) (rs2 := 16953 + 0 * tsN fu) (w0 := ((wSo Z n15 z4 (nI (((([] : List Nat) ++ txN n fu (kdA q)) ++ cTx 25) ++ txN n fu (kdB q)).length)) ++ arrB Z z4 k4 m4)) (q0 := 0) C iX10_text_410 lm_X10_103 yc_J4_toString_0e30d yv_J4_toString_0e30d (c_J4_toString_0e30d (T := (((([] : List Nat) ++ txN n fu (kdA q)) ++ cTx 25) ++ txN n fu (kdB q))) g4 (by simp only [List.length_append, List.length_nil] at hl9 ⊢; omega)) rfl rfl rfl ((arrS Z n1 6 (wdA Z) ++ arrS Z n2 6 (wdB Z)) ++ arrS Z n3 5 (wdC Z)) (wPl Z L) (by simp only [List.append_assoc, List.append_nil, List.nil_append]) rfl (rmT_m (by decide) (by decide)) (Nat.le_of_ble_eq_true rfl) rfl rfl ?_
          rintro _ _ ⟨s5, t5, b5, rfl, rfl, h5⟩
          refine J_st (.ref s5 :: []) rfl ?_
          refine J_ws (((((((arrS Z n1 6 (wdA Z) ++ arrS Z n2 6 (wdB Z)) ++ arrS Z n3 5 (wdC Z)) ++ wTo Z s5 t5) ++ wSo Z n15 z4 (nI (((([] : List Nat) ++ txN n fu (kdA q)) ++ cTx 25) ++ txN n fu (kdB q)).length)) ++ arrB Z z4 k4 m4) ++ arrB Z t5 ((((([] : List Nat) ++ txN n fu (kdA q)) ++ cTx 25) ++ txN n fu (kdB q)).length) b5) ++ wPl Z L) (by simp only [List.append_assoc, List.append_nil, List.nil_append]) ?_
          refine J_drop [] ((arrS Z n1 6 (wdA Z) ++ arrS Z n2 6 (wdB Z)) ++ arrS Z n3 5 (wdC Z)) ((((wTo Z s5 t5 ++ wSo Z n15 z4 (nI (((([] : List Nat) ++ txN n fu (kdA q)) ++ cTx 25) ++ txN n fu (kdB q)).length)) ++ arrB Z z4 k4 m4) ++ arrB Z t5 ((((([] : List Nat) ++ txN n fu (kdA q)) ++ cTx 25) ++ txN n fu (kdB q)).length) b5) ++ wPl Z L) (by simp only [List.append_assoc, List.append_nil, List.nil_append]) ?_
          refine J_ws ((((wTo Z s5 t5 ++ wSo Z n15 z4 (nI (((([] : List Nat) ++ txN n fu (kdA q)) ++ cTx 25) ++ txN n fu (kdB q)).length)) ++ arrB Z z4 k4 m4) ++ arrB Z t5 ((((([] : List Nat) ++ txN n fu (kdA q)) ++ cTx 25) ++ txN n fu (kdB q)).length) b5) ++ wPl Z L) (by simp only [List.append_assoc, List.append_nil, List.nil_append]) ?_
          refine J_drop (wTo Z s5 t5) ((wSo Z n15 z4 (nI (((([] : List Nat) ++ txN n fu (kdA q)) ++ cTx 25) ++ txN n fu (kdB q)).length)) ++ arrB Z z4 k4 m4) ((arrB Z t5 ((((([] : List Nat) ++ txN n fu (kdA q)) ++ cTx 25) ++ txN n fu (kdB q)).length) b5) ++ wPl Z L) (by simp only [List.append_assoc, List.append_nil, List.nil_append]) ?_
          refine J_ws ((wTo Z s5 t5 ++ arrB Z t5 ((((([] : List Nat) ++ txN n fu (kdA q)) ++ cTx 25) ++ txN n fu (kdB q)).length) b5) ++ wPl Z L) (by simp only [List.append_assoc, List.append_nil, List.nil_append]) ?_
          refine J_perm ((wTo Z s5 t5 ++ wPl Z L) ++ arrB Z t5 ((((([] : List Nat) ++ txN n fu (kdA q)) ++ cTx 25) ++ txN n fu (kdB q)).length) b5) (sw2 _ _ _) ?_
          refine J_perm ((wPl Z L ++ wTo Z s5 t5) ++ arrB Z t5 ((((([] : List Nat) ++ txN n fu (kdA q)) ++ cTx 25) ++ txN n fu (kdB q)).length) b5) (List.perm_append_comm.append_right _) ?_
          exact J_aret C E iX10_text_413 (Or.inl ⟨_, rfl⟩) (Or.inr ⟨s5, _, _, rfl, rfl, h5⟩)
        · refine J_room (rc2 := (tcN fu) + (13 + 0 * tcN fu)) (rs2 := (tsN fu) + (22959 + 0 * tsN fu)) (by omega) (by omega) ?_
          obtain ⟨j1_, e1_, f1_⟩ := InT.at hxb
          refine J_cVb (As := []) (st := .ref n15 :: []) (rc2 := 13 + 0 * tcN fu) (rs2 := 22959 + 0 * tsN fu) (w0 := wPl Z L) (q0 := j1_) C iX10_text_404 lm_X10_111 yc_X10_text yv_X10_text (ih (q := kdB q) hxb (by simp only [List.length_append] at hl9; omega)) rfl rfl (wPl_at f1_) ((((arrS Z n1 6 (wdA Z) ++ arrS Z n2 6 (wdB Z)) ++ arrS Z n3 5 (wdC Z)) ++ wSo Z n15 y3 (nI ((([] : List Nat) ++ txN n fu (kdA q)) ++ cTx 25).length)) ++ arrB Z y3 c3 b3) [] (by simp only [List.append_assoc, List.append_nil, List.nil_append]) rfl (rmT_le (by omega) (by decide)) (Nat.le_of_ble_eq_true rfl) rfl rfl ?_
          rintro _ _ (⟨j4, hj4, rfl, rfl, e4⟩ | ⟨s4, t4, b4, rfl, rfl, e4⟩)
          · refine J_st (.ref (zsk Z j4) :: .ref n15 :: []) rfl ?_
            refine J_ws (((((arrS Z n1 6 (wdA Z) ++ arrS Z n2 6 (wdB Z)) ++ arrS Z n3 5 (wdC Z)) ++ wSo Z n15 y3 (nI ((([] : List Nat) ++ txN n fu (kdA q)) ++ cTx 25).length)) ++ arrB Z y3 c3 b3) ++ wPl Z L) (by simp only [List.append_assoc, List.append_nil, List.nil_append]) ?_
            refine J_room (rc2 := 1 + (12 + 0 * tcN fu)) (rs2 := 4002 + (18957 + 0 * tsN fu)) (by omega) (by omega) ?_
            refine J_cVb (As := [.ref (zsk Z j4)]) (st := []) (rc2 := 12 + 0 * tcN fu) (rs2 := 18957 + 0 * tsN fu) (w0 := ((wSo Z n15 y3 (nI ((([] : List Nat) ++ txN n fu (kdA q)) ++ cTx 25).length)) ++ arrB Z y3 c3 b3)) (q0 := 0) C iX10_text_407 lm_X10_96 yc_J4_append_15ec4 yv_J4_append_15ec4 (c_J4_append_C (T := ((([] : List Nat) ++ txN n fu (kdA q)) ++ cTx 25)) (i := j4) h3 hj4 (by rw [← e4]; simp only [List.length_append, List.length_nil] at hl9 ⊢; omega)) rfl rfl rfl ((arrS Z n1 6 (wdA Z) ++ arrS Z n2 6 (wdB Z)) ++ arrS Z n3 5 (wdC Z)) (wPl Z L) (by simp only [List.append_assoc, List.append_nil, List.nil_append]) rfl (rmT_m (by decide) (by decide)) (Nat.le_of_ble_eq_true rfl) rfl rfl ?_
            rintro _ _ ⟨rfl, y6, c6, b6, rfl, h6⟩
            refine J_st (.ref n15 :: []) rfl ?_
            refine J_ws (((((arrS Z n1 6 (wdA Z) ++ arrS Z n2 6 (wdB Z)) ++ arrS Z n3 5 (wdC Z)) ++ wSo Z n15 y6 (nI (((([] : List Nat) ++ txN n fu (kdA q)) ++ cTx 25) ++ cTx j4).length)) ++ arrB Z y6 c6 b6) ++ wPl Z L) (by simp only [List.append_assoc, List.append_nil, List.nil_append]) ?_
            rw [← e4]
            exact hk410_4 (y6, c6, b6) (by rw [e4]; exact h6)
          · refine J_st (.ref s4 :: .ref n15 :: []) rfl ?_
            refine J_ws (((((((arrS Z n1 6 (wdA Z) ++ arrS Z n2 6 (wdB Z)) ++ arrS Z n3 5 (wdC Z)) ++ wSo Z n15 y3 (nI ((([] : List Nat) ++ txN n fu (kdA q)) ++ cTx 25).length)) ++ arrB Z y3 c3 b3) ++ wPl Z L) ++ wTo Z s4 t4) ++ arrB Z t4 ((txN n fu (kdB q)).length) b4) (by simp only [List.append_assoc, List.append_nil, List.nil_append]) ?_
            refine J_perm (((((((arrS Z n1 6 (wdA Z) ++ arrS Z n2 6 (wdB Z)) ++ arrS Z n3 5 (wdC Z)) ++ wSo Z n15 y3 (nI ((([] : List Nat) ++ txN n fu (kdA q)) ++ cTx 25).length)) ++ arrB Z y3 c3 b3) ++ wTo Z s4 t4) ++ wPl Z L) ++ arrB Z t4 ((txN n fu (kdB q)).length) b4) ((sw2 _ _ _).append_right _) ?_
            refine J_perm (((((((arrS Z n1 6 (wdA Z) ++ arrS Z n2 6 (wdB Z)) ++ arrS Z n3 5 (wdC Z)) ++ wSo Z n15 y3 (nI ((([] : List Nat) ++ txN n fu (kdA q)) ++ cTx 25).length)) ++ arrB Z y3 c3 b3) ++ wTo Z s4 t4) ++ arrB Z t4 ((txN n fu (kdB q)).length) b4) ++ wPl Z L) (sw2 _ _ _) ?_
            refine J_room (rc2 := 1 + (12 + 0 * tcN fu)) (rs2 := 4002 + (18957 + 0 * tsN fu)) (by omega) (by omega) ?_
            refine J_cVb (As := [.ref s4]) (st := []) (rc2 := 12 + 0 * tcN fu) (rs2 := 18957 + 0 * tsN fu) (w0 := ((((wSo Z n15 y3 (nI ((([] : List Nat) ++ txN n fu (kdA q)) ++ cTx 25).length)) ++ arrB Z y3 c3 b3) ++ wTo Z s4 t4) ++ arrB Z t4 ((txN n fu (kdB q)).length) b4)) (q0 := 0) C iX10_text_407 lm_X10_96 yc_J4_append_15ec4 yv_J4_append_15ec4 (c_J4_append_D (T := ((([] : List Nat) ++ txN n fu (kdA q)) ++ cTx 25)) (S := txN n fu (kdB q)) h3 e4 (by simp only [List.length_append, List.length_nil] at hl9 ⊢; omega)) rfl rfl rfl ((arrS Z n1 6 (wdA Z) ++ arrS Z n2 6 (wdB Z)) ++ arrS Z n3 5 (wdC Z)) (wPl Z L) (by simp only [List.append_assoc, List.append_nil, List.nil_append]) rfl (rmT_m (by decide) (by decide)) (Nat.le_of_ble_eq_true rfl) rfl rfl ?_
            rintro _ _ ⟨rfl, y7, c7, b7, rfl, h7⟩
            refine J_st (.ref n15 :: []) rfl ?_
            refine J_ws (((((((arrS Z n1 6 (wdA Z) ++ arrS Z n2 6 (wdB Z)) ++ arrS Z n3 5 (wdC Z)) ++ wSo Z n15 y7 (nI (((([] : List Nat) ++ txN n fu (kdA q)) ++ cTx 25) ++ txN n fu (kdB q)).length)) ++ arrB Z y7 c7 b7) ++ wTo Z s4 t4) ++ arrB Z t4 ((txN n fu (kdB q)).length) b4) ++ wPl Z L) (by simp only [List.append_assoc, List.append_nil, List.nil_append]) ?_
            refine J_drop ((((arrS Z n1 6 (wdA Z) ++ arrS Z n2 6 (wdB Z)) ++ arrS Z n3 5 (wdC Z)) ++ wSo Z n15 y7 (nI (((([] : List Nat) ++ txN n fu (kdA q)) ++ cTx 25) ++ txN n fu (kdB q)).length)) ++ arrB Z y7 c7 b7) (wTo Z s4 t4 ++ arrB Z t4 ((txN n fu (kdB q)).length) b4) (wPl Z L) (by simp only [List.append_assoc, List.append_nil, List.nil_append]) ?_
            refine J_ws (((((arrS Z n1 6 (wdA Z) ++ arrS Z n2 6 (wdB Z)) ++ arrS Z n3 5 (wdC Z)) ++ wSo Z n15 y7 (nI (((([] : List Nat) ++ txN n fu (kdA q)) ++ cTx 25) ++ txN n fu (kdB q)).length)) ++ arrB Z y7 c7 b7) ++ wPl Z L) (by simp only [List.append_assoc, List.append_nil, List.nil_append]) ?_
            exact hk410_4 (y7, c7, b7) h7
      · refine J_room (rc2 := (tcN fu) + (15 + 1 * tcN fu)) (rs2 := (tsN fu) + (30963 + 1 * tsN fu)) (by omega) (by omega) ?_
        obtain ⟨j2_, e2_, f2_⟩ := InT.at hxa
        refine J_cVb (As := []) (st := .ref n15 :: []) (rc2 := 15 + 1 * tcN fu) (rs2 := 30963 + 1 * tsN fu) (w0 := wPl Z L) (q0 := j2_) C iX10_text_382 lm_X10_111 yc_X10_text yv_X10_text (ih (q := kdA q) hxa (by simp only [List.length_append] at hl9; omega)) rfl rfl (wPl_at f2_) ((((arrS Z n1 6 (wdA Z) ++ arrS Z n2 6 (wdB Z)) ++ arrS Z n3 5 (wdC Z)) ++ wSo Z n15 q1 0) ++ arrB Z q1 16 (fun _ => 0)) [] (by simp only [List.append_assoc, List.append_nil, List.nil_append]) rfl (rmT_le (by omega) (by decide)) (Nat.le_of_ble_eq_true rfl) rfl rfl ?_
        rintro _ _ (⟨j2, hj2, rfl, rfl, e2⟩ | ⟨s2, t2, b2, rfl, rfl, e2⟩)
        · refine J_st (.ref (zsk Z j2) :: .ref n15 :: []) rfl ?_
          refine J_ws (((((arrS Z n1 6 (wdA Z) ++ arrS Z n2 6 (wdB Z)) ++ arrS Z n3 5 (wdC Z)) ++ wSo Z n15 q1 0) ++ arrB Z q1 16 (fun _ => 0)) ++ wPl Z L) (by simp only [List.append_assoc, List.append_nil, List.nil_append]) ?_
          refine J_room (rc2 := 1 + (14 + 1 * tcN fu)) (rs2 := 4002 + (26961 + 1 * tsN fu)) (by omega) (by omega) ?_
          refine J_cVb (As := [.ref (zsk Z j2)]) (st := []) (rc2 := 14 + 1 * tcN fu) (rs2 := 26961 + 1 * tsN fu) (w0 := (wSo Z n15 q1 0 ++ arrB Z q1 16 (fun _ => 0))) (q0 := 0) C iX10_text_385 lm_X10_96 yc_J4_append_15ec4 yv_J4_append_15ec4 (c_J4_append_C (T := ([] : List Nat)) (i := j2) sb_new hj2 (by rw [← e2]; simp only [List.length_append, List.length_nil] at hl9 ⊢; omega)) rfl rfl rfl ((arrS Z n1 6 (wdA Z) ++ arrS Z n2 6 (wdB Z)) ++ arrS Z n3 5 (wdC Z)) (wPl Z L) (by simp only [List.append_assoc, List.append_nil, List.nil_append]) rfl (rmT_m (by decide) (by decide)) (Nat.le_of_ble_eq_true rfl) rfl rfl ?_
          rintro _ _ ⟨rfl, y8, c8, b8, rfl, h8⟩
          refine J_st (.ref n15 :: []) rfl ?_
          refine J_ws (((((arrS Z n1 6 (wdA Z) ++ arrS Z n2 6 (wdB Z)) ++ arrS Z n3 5 (wdC Z)) ++ wSo Z n15 y8 (nI (([] : List Nat) ++ cTx j2).length)) ++ arrB Z y8 c8 b8) ++ wPl Z L) (by simp only [List.append_assoc, List.append_nil, List.nil_append]) ?_
          rw [← e2]
          exact hk388_2 (y8, c8, b8) (by rw [e2]; exact h8)
        · refine J_st (.ref s2 :: .ref n15 :: []) rfl ?_
          refine J_ws (((((((arrS Z n1 6 (wdA Z) ++ arrS Z n2 6 (wdB Z)) ++ arrS Z n3 5 (wdC Z)) ++ wSo Z n15 q1 0) ++ arrB Z q1 16 (fun _ => 0)) ++ wPl Z L) ++ wTo Z s2 t2) ++ arrB Z t2 ((txN n fu (kdA q)).length) b2) (by simp only [List.append_assoc, List.append_nil, List.nil_append]) ?_
          refine J_perm (((((((arrS Z n1 6 (wdA Z) ++ arrS Z n2 6 (wdB Z)) ++ arrS Z n3 5 (wdC Z)) ++ wSo Z n15 q1 0) ++ arrB Z q1 16 (fun _ => 0)) ++ wTo Z s2 t2) ++ wPl Z L) ++ arrB Z t2 ((txN n fu (kdA q)).length) b2) ((sw2 _ _ _).append_right _) ?_
          refine J_perm (((((((arrS Z n1 6 (wdA Z) ++ arrS Z n2 6 (wdB Z)) ++ arrS Z n3 5 (wdC Z)) ++ wSo Z n15 q1 0) ++ arrB Z q1 16 (fun _ => 0)) ++ wTo Z s2 t2) ++ arrB Z t2 ((txN n fu (kdA q)).length) b2) ++ wPl Z L) (sw2 _ _ _) ?_
          refine J_room (rc2 := 1 + (14 + 1 * tcN fu)) (rs2 := 4002 + (26961 + 1 * tsN fu)) (by omega) (by omega) ?_
          refine J_cVb (As := [.ref s2]) (st := []) (rc2 := 14 + 1 * tcN fu) (rs2 := 26961 + 1 * tsN fu) (w0 := (((wSo Z n15 q1 0 ++ arrB Z q1 16 (fun _ => 0)) ++ wTo Z s2 t2) ++ arrB Z t2 ((txN n fu (kdA q)).length) b2)) (q0 := 0) C iX10_text_385 lm_X10_96 yc_J4_append_15ec4 yv_J4_append_15ec4 (c_J4_append_D (T := ([] : List Nat)) (S := txN n fu (kdA q)) sb_new e2 (by simp only [List.length_append, List.length_nil] at hl9 ⊢; omega)) rfl rfl rfl ((arrS Z n1 6 (wdA Z) ++ arrS Z n2 6 (wdB Z)) ++ arrS Z n3 5 (wdC Z)) (wPl Z L) (by simp only [List.append_assoc, List.append_nil, List.nil_append]) rfl (rmT_m (by decide) (by decide)) (Nat.le_of_ble_eq_true rfl) rfl rfl ?_
          rintro _ _ ⟨rfl, y9, c9, b9, rfl, h9⟩
          refine J_st (.ref n15 :: []) rfl ?_
          refine J_ws (((((((arrS Z n1 6 (wdA Z) ++ arrS Z n2 6 (wdB Z)) ++ arrS Z n3 5 (wdC Z)) ++ wSo Z n15 y9 (nI (([] : List Nat) ++ txN n fu (kdA q)).length)) ++ arrB Z y9 c9 b9) ++ wTo Z s2 t2) ++ arrB Z t2 ((txN n fu (kdA q)).length) b2) ++ wPl Z L) (by simp only [List.append_assoc, List.append_nil, List.nil_append]) ?_
          refine J_drop ((((arrS Z n1 6 (wdA Z) ++ arrS Z n2 6 (wdB Z)) ++ arrS Z n3 5 (wdC Z)) ++ wSo Z n15 y9 (nI (([] : List Nat) ++ txN n fu (kdA q)).length)) ++ arrB Z y9 c9 b9) (wTo Z s2 t2 ++ arrB Z t2 ((txN n fu (kdA q)).length) b2) (wPl Z L) (by simp only [List.append_assoc, List.append_nil, List.nil_append]) ?_
          refine J_ws (((((arrS Z n1 6 (wdA Z) ++ arrS Z n2 6 (wdB Z)) ++ arrS Z n3 5 (wdC Z)) ++ wSo Z n15 y9 (nI (([] : List Nat) ++ txN n fu (kdA q)).length)) ++ arrB Z y9 c9 b9) ++ wPl Z L) (by simp only [List.append_assoc, List.append_nil, List.nil_append]) ?_
          exact hk388_2 (y9, c9, b9) h9
    · rw [hk] at hi9 hbA hbB
      obtain ⟨xa, rfl, hxa⟩ := hbA rfl
      obtain ⟨xb, rfl, hxb⟩ := hbB rfl
      have htx : txN n (fu + 1) q = (((([] : List Nat) ++ (txN n fu (kdA q))) ++ cTx 26) ++ (txN n fu (kdB q))) := by rw [txN, tx1, if_neg (by omega), if_neg (by omega), if_neg (by omega), if_neg (by omega), if_neg (by omega), if_neg (by omega), if_neg (by omega), if_neg (by omega), if_neg (by omega), if_neg (by omega), if_neg (by omega), if_neg (by omega), if_neg (by omega), if_neg (by omega), if_pos hk]
      rw [htx] at hl9 ⊢
      refine J_aload_n C iX10_text_102 rfl rfl ?_
      refine J_get (.int 21) ((((arrS Z n1 6 (wdA Z) ++ arrS Z n2 6 (wdB Z)) ++ arrS Z n3 5 (wdC Z))).length + i) C iX10_text_103 gf_X10_7 (mid_at (A := ((arrS Z n1 6 (wdA Z) ++ arrS Z n2 6 (wdB Z)) ++ arrS Z n3 5 (wdC Z))) (M := wPl Z L) (B := []) (by simp only [List.append_assoc, List.append_nil, List.nil_append]) (wPl_at hi9)) rfl ?_
      refine J_ifne 132 C iX10_text_106 rfl (fun h106 => ?_) (fun h106 => absurd h106 (by decide))
      refine J_aload_n C iX10_text_132 rfl rfl ?_
      refine J_get (.int 21) ((((arrS Z n1 6 (wdA Z) ++ arrS Z n2 6 (wdB Z)) ++ arrS Z n3 5 (wdC Z))).length + i) C iX10_text_133 gf_X10_7 (mid_at (A := ((arrS Z n1 6 (wdA Z) ++ arrS Z n2 6 (wdB Z)) ++ arrS Z n3 5 (wdC Z))) (M := wPl Z L) (B := []) (by simp only [List.append_assoc, List.append_nil, List.nil_append]) (wPl_at hi9)) rfl ?_
      refine J_iconst 3 C iX10_text_136 rfl ?_
      refine J_icmpge 147 C iX10_text_137 rfl (fun h137 => ?_) (fun h137 => absurd (by decide) h137)
      refine J_aload_n C iX10_text_147 rfl rfl ?_
      refine J_get (.int 21) ((((arrS Z n1 6 (wdA Z) ++ arrS Z n2 6 (wdB Z)) ++ arrS Z n3 5 (wdC Z))).length + i) C iX10_text_148 gf_X10_7 (mid_at (A := ((arrS Z n1 6 (wdA Z) ++ arrS Z n2 6 (wdB Z)) ++ arrS Z n3 5 (wdC Z))) (M := wPl Z L) (B := []) (by simp only [List.append_assoc, List.append_nil, List.nil_append]) (wPl_at hi9)) rfl ?_
      refine J_bipush 6 C iX10_text_151 rfl ?_
      refine J_icmpge 188 C iX10_text_153 rfl (fun h153 => ?_) (fun h153 => absurd (by decide) h153)
      refine J_aload_n C iX10_text_188 rfl rfl ?_
      refine J_get (.int 21) ((((arrS Z n1 6 (wdA Z) ++ arrS Z n2 6 (wdB Z)) ++ arrS Z n3 5 (wdC Z))).length + i) C iX10_text_189 gf_X10_7 (mid_at (A := ((arrS Z n1 6 (wdA Z) ++ arrS Z n2 6 (wdB Z)) ++ arrS Z n3 5 (wdC Z))) (M := wPl Z L) (B := []) (by simp only [List.append_assoc, List.append_nil, List.nil_append]) (wPl_at hi9)) rfl ?_
      refine J_bipush 6 C iX10_text_192 rfl ?_
      refine J_icmpne 228 C iX10_text_194 rfl (fun h194 => ?_) (fun h194 => absurd h194 (by decide))
      refine J_aload_n C iX10_text_228 rfl rfl ?_
      refine J_get (.int 21) ((((arrS Z n1 6 (wdA Z) ++ arrS Z n2 6 (wdB Z)) ++ arrS Z n3 5 (wdC Z))).length + i) C iX10_text_229 gf_X10_7 (mid_at (A := ((arrS Z n1 6 (wdA Z) ++ arrS Z n2 6 (wdB Z)) ++ arrS Z n3 5 (wdC Z))) (M := wPl Z L) (B := []) (by simp only [List.append_assoc, List.append_nil, List.nil_append]) (wPl_at hi9)) rfl ?_
      refine J_bipush 11 C iX10_text_232 rfl ?_
      refine J_icmpge 300 C iX10_text_234 rfl (fun h234 => ?_) (fun h234 => absurd (by decide) h234)
      refine J_aload_n C iX10_text_300 rfl rfl ?_
      refine J_get (.int 21) ((((arrS Z n1 6 (wdA Z) ++ arrS Z n2 6 (wdB Z)) ++ arrS Z n3 5 (wdC Z))).length + i) C iX10_text_301 gf_X10_7 (mid_at (A := ((arrS Z n1 6 (wdA Z) ++ arrS Z n2 6 (wdB Z)) ++ arrS Z n3 5 (wdC Z))) (M := wPl Z L) (B := []) (by simp only [List.append_assoc, List.append_nil, List.nil_append]) (wPl_at hi9)) rfl ?_
      refine J_bipush 13 C iX10_text_304 rfl ?_
      refine J_icmpge 362 C iX10_text_306 rfl (fun h306 => ?_) (fun h306 => absurd (by decide) h306)
      refine J_aload_n C iX10_text_362 rfl rfl ?_
      refine J_get (.int 21) ((((arrS Z n1 6 (wdA Z) ++ arrS Z n2 6 (wdB Z)) ++ arrS Z n3 5 (wdC Z))).length + i) C iX10_text_363 gf_X10_7 (mid_at (A := ((arrS Z n1 6 (wdA Z) ++ arrS Z n2 6 (wdB Z)) ++ arrS Z n3 5 (wdC Z))) (M := wPl Z L) (B := []) (by simp only [List.append_assoc, List.append_nil, List.nil_append]) (wPl_at hi9)) rfl ?_
      refine J_bipush 25 C iX10_text_366 rfl ?_
      refine J_icmpge 414 C iX10_text_368 rfl (fun h368 => absurd h368 (by decide)) (fun h368 => ?_)
      refine J_room (rc2 := 1 + (16 + 2 * tcN fu)) (rs2 := 4 + (30979 + 2 * tsN fu)) (by omega) (by omega) ?_
      refine J_new (ci := 11) [.null, .int 0, .int 0, .int 0] tyJ4 C iX10_text_371 rfl lay_J4 tyJ4_ok (tsg_in (i := 1410) (by decide +kernel) rfl) (tsg_in (i := 1411) (by decide +kernel) rfl) (tsg_in (i := 45) (by decide +kernel) rfl) df_J4 (fun n16 => ?_)
      refine J_ws ((((arrS Z n1 6 (wdA Z) ++ arrS Z n2 6 (wdB Z)) ++ arrS Z n3 5 (wdC Z)) ++ wPl Z L) ++ wS0 Z n16) rfl ?_
      refine J_perm ((((arrS Z n1 6 (wdA Z) ++ arrS Z n2 6 (wdB Z)) ++ arrS Z n3 5 (wdC Z)) ++ wS0 Z n16) ++ wPl Z L) (sw2 _ _ _) ?_
      refine J_dup C iX10_text_374 rfl ?_
      refine J_room (rc2 := 1 + (15 + 2 * tcN fu)) (rs2 := 16 + (30963 + 2 * tsN fu)) (by omega) (by omega) ?_
      refine J_cIb (As := []) (st := .ref n16 :: []) (rc2 := 15 + 2 * tcN fu) (rs2 := 30963 + 2 * tsN fu) (w0 := (wS0 Z n16)) C iX10_text_375 lm_X10_95 yc_J4_init_da8c8 yi_J4_init_da8c8 c_J4_init_da8c8 ((arrS Z n1 6 (wdA Z) ++ arrS Z n2 6 (wdB Z)) ++ arrS Z n3 5 (wdC Z)) (wPl Z L) (by simp only [List.append_assoc, List.append_nil, List.nil_append]) rfl (rmT_m (by decide) (by decide)) (Nat.le_of_ble_eq_true rfl) rfl rfl ?_
      rintro _ _ ⟨rfl, q1, rfl⟩
      refine J_st (.ref n16 :: []) rfl ?_
      refine J_ws (((((arrS Z n1 6 (wdA Z) ++ arrS Z n2 6 (wdB Z)) ++ arrS Z n3 5 (wdC Z)) ++ wSo Z n16 q1 0) ++ arrB Z q1 16 (fun _ => 0)) ++ wPl Z L) (by simp only [List.append_assoc, List.append_nil, List.nil_append]) ?_
      refine J_aload_n C iX10_text_378 rfl rfl ?_
      refine J_get (.ref xa) ((((((arrS Z n1 6 (wdA Z) ++ arrS Z n2 6 (wdB Z)) ++ arrS Z n3 5 (wdC Z)) ++ wSo Z n16 q1 0) ++ arrB Z q1 16 (fun _ => 0))).length + i) C iX10_text_379 gf_X10_36 (mid_at (A := ((((arrS Z n1 6 (wdA Z) ++ arrS Z n2 6 (wdB Z)) ++ arrS Z n3 5 (wdC Z)) ++ wSo Z n16 q1 0) ++ arrB Z q1 16 (fun _ => 0))) (M := wPl Z L) (B := []) (by simp only [List.append_assoc, List.append_nil, List.nil_append]) (wPl_at hi9)) rfl ?_
      refine J_alt (ι := Nat × Nat × (Nat → Int32)) (P := fun i9 => SbT (([] : List Nat) ++ txN n fu (kdA q)) i9.2.1 i9.2.2) (14 + 1 * tcN fu) (26961 + 1 * tsN fu) 388 (fun _ => [(3, .ref n3), (2, .ref n2), (1, .ref n1), (0, .ref a)]) (fun _ => .ref n16 :: []) (fun i9 => (((((arrS Z n1 6 (wdA Z) ++ arrS Z n2 6 (wdB Z)) ++ arrS Z n3 5 (wdC Z)) ++ wSo Z n16 i9.1 (nI (([] : List Nat) ++ txN n fu (kdA q)).length)) ++ arrB Z i9.1 i9.2.1 i9.2.2) ++ wPl Z L)) (fun i9 hi9_ => ?_) (fun hk388_2 => ?_)
      · obtain ⟨z2, k2, m2⟩ := i9
        have g2 : SbT (([] : List Nat) ++ txN n fu (kdA q)) k2 m2 := hi9_
        refine J_ws (((((arrS Z n1 6 (wdA Z) ++ arrS Z n2 6 (wdB Z)) ++ arrS Z n3 5 (wdC Z)) ++ wSo Z n16 z2 (nI (([] : List Nat) ++ txN n fu (kdA q)).length)) ++ arrB Z z2 k2 m2) ++ wPl Z L) rfl ?_
        refine J_aload_n C iX10_text_388 rfl rfl ?_
        refine J_aload_n C iX10_text_389 rfl rfl ?_
        refine J_get (.int 21) ((((((arrS Z n1 6 (wdA Z) ++ arrS Z n2 6 (wdB Z)) ++ arrS Z n3 5 (wdC Z)) ++ wSo Z n16 z2 (nI (([] : List Nat) ++ txN n fu (kdA q)).length)) ++ arrB Z z2 k2 m2)).length + i) C iX10_text_390 gf_X10_7 (mid_at (A := ((((arrS Z n1 6 (wdA Z) ++ arrS Z n2 6 (wdB Z)) ++ arrS Z n3 5 (wdC Z)) ++ wSo Z n16 z2 (nI (([] : List Nat) ++ txN n fu (kdA q)).length)) ++ arrB Z z2 k2 m2)) (M := wPl Z L) (B := []) (by simp only [List.append_assoc, List.append_nil, List.nil_append]) (wPl_at hi9)) rfl ?_
        refine J_bipush 20 C iX10_text_393 rfl ?_
        refine J_isub C iX10_text_395 ?_
        rw [show (21 - 20 : Int32) = 1 from rfl]
        refine J_aaldS 2 C iX10_text_396 rfl (vp_in_nI (n := 1) (by decide) (by decide)) ?_
        rw [show Int32.toNatClampNeg 1 = 1 from rfl]
        refine J_st (.ref (zsk Z 26) :: .ref n16 :: []) rfl ?_
        refine J_room (rc2 := 1 + (13 + 1 * tcN fu)) (rs2 := 4002 + (22959 + 1 * tsN fu)) (by omega) (by omega) ?_
        refine J_cVb (As := [.ref (zsk Z 26)]) (st := []) (rc2 := 13 + 1 * tcN fu) (rs2 := 22959 + 1 * tsN fu) (w0 := ((wSo Z n16 z2 (nI (([] : List Nat) ++ txN n fu (kdA q)).length)) ++ arrB Z z2 k2 m2)) (q0 := 0) C iX10_text_397 lm_X10_96 yc_J4_append_15ec4 yv_J4_append_15ec4 (c_J4_append_C (T := (([] : List Nat) ++ txN n fu (kdA q))) (i := 26) g2 (by decide) (by simp only [List.length_append, List.length_nil] at hl9 ⊢; omega)) rfl rfl rfl ((arrS Z n1 6 (wdA Z) ++ arrS Z n2 6 (wdB Z)) ++ arrS Z n3 5 (wdC Z)) (wPl Z L) (by simp only [List.append_assoc, List.append_nil, List.nil_append]) rfl (rmT_m (by decide) (by decide)) (Nat.le_of_ble_eq_true rfl) rfl rfl ?_
        rintro _ _ ⟨rfl, y3, c3, b3, rfl, h3⟩
        refine J_st (.ref n16 :: []) rfl ?_
        refine J_ws (((((arrS Z n1 6 (wdA Z) ++ arrS Z n2 6 (wdB Z)) ++ arrS Z n3 5 (wdC Z)) ++ wSo Z n16 y3 (nI ((([] : List Nat) ++ txN n fu (kdA q)) ++ cTx 26).length)) ++ arrB Z y3 c3 b3) ++ wPl Z L) (by simp only [List.append_assoc, List.append_nil, List.nil_append]) ?_
        refine J_aload_n C iX10_text_400 rfl rfl ?_
        refine J_get (.ref xb) ((((((arrS Z n1 6 (wdA Z) ++ arrS Z n2 6 (wdB Z)) ++ arrS Z n3 5 (wdC Z)) ++ wSo Z n16 y3 (nI ((([] : List Nat) ++ txN n fu (kdA q)) ++ cTx 26).length)) ++ arrB Z y3 c3 b3)).length + i) C iX10_text_401 gf_X10_51 (mid_at (A := ((((arrS Z n1 6 (wdA Z) ++ arrS Z n2 6 (wdB Z)) ++ arrS Z n3 5 (wdC Z)) ++ wSo Z n16 y3 (nI ((([] : List Nat) ++ txN n fu (kdA q)) ++ cTx 26).length)) ++ arrB Z y3 c3 b3)) (M := wPl Z L) (B := []) (by simp only [List.append_assoc, List.append_nil, List.nil_append]) (wPl_at hi9)) rfl ?_
        refine J_alt (ι := Nat × Nat × (Nat → Int32)) (P := fun i9 => SbT (((([] : List Nat) ++ txN n fu (kdA q)) ++ cTx 26) ++ txN n fu (kdB q)) i9.2.1 i9.2.2) (12 + 0 * tcN fu) (18957 + 0 * tsN fu) 410 (fun _ => [(3, .ref n3), (2, .ref n2), (1, .ref n1), (0, .ref a)]) (fun _ => .ref n16 :: []) (fun i9 => (((((arrS Z n1 6 (wdA Z) ++ arrS Z n2 6 (wdB Z)) ++ arrS Z n3 5 (wdC Z)) ++ wSo Z n16 i9.1 (nI (((([] : List Nat) ++ txN n fu (kdA q)) ++ cTx 26) ++ txN n fu (kdB q)).length)) ++ arrB Z i9.1 i9.2.1 i9.2.2) ++ wPl Z L)) (fun i9 hi9_ => ?_) (fun hk410_4 => ?_)
        · obtain ⟨z4, k4, m4⟩ := i9
          have g4 : SbT (((([] : List Nat) ++ txN n fu (kdA q)) ++ cTx 26) ++ txN n fu (kdB q)) k4 m4 := hi9_
          refine J_ws (((((arrS Z n1 6 (wdA Z) ++ arrS Z n2 6 (wdB Z)) ++ arrS Z n3 5 (wdC Z)) ++ wSo Z n16 z4 (nI (((([] : List Nat) ++ txN n fu (kdA q)) ++ cTx 26) ++ txN n fu (kdB q)).length)) ++ arrB Z z4 k4 m4) ++ wPl Z L) rfl ?_
          refine J_room (rc2 := 2 + (10 + 0 * tcN fu)) (rs2 := 2004 + (16953 + 0 * tsN fu)) (by omega) (by omega) ?_
          refine J_cVb (As := []) (st := []) (rc2 := 10 + 0 * tcN fu) (rs2 := 16953 + 0 * tsN fu) (w0 := ((wSo Z n16 z4 (nI (((([] : List Nat) ++ txN n fu (kdA q)) ++ cTx 26) ++ txN n fu (kdB q)).length)) ++ arrB Z z4 k4 m4)) (q0 := 0) C iX10_text_410 lm_X10_103 yc_J4_toString_0e30d yv_J4_toString_0e30d (c_J4_toString_0e30d (T := (((([] : List Nat) ++ txN n fu (kdA q)) ++ cTx 26) ++ txN n fu (kdB q))) g4 (by simp only [List.length_append, List.length_nil] at hl9 ⊢; omega)) rfl rfl rfl ((arrS Z n1 6 (wdA Z) ++ arrS Z n2 6 (wdB Z)) ++ arrS Z n3 5 (wdC Z)) (wPl Z L) (by simp only [List.append_assoc, List.append_nil, List.nil_append]) rfl (rmT_m (by decide) (by decide)) (Nat.le_of_ble_eq_true rfl) rfl rfl ?_
          rintro _ _ ⟨s5, t5, b5, rfl, rfl, h5⟩
          refine J_st (.ref s5 :: []) rfl ?_
          refine J_ws (((((((arrS Z n1 6 (wdA Z) ++ arrS Z n2 6 (wdB Z)) ++ arrS Z n3 5 (wdC Z)) ++ wTo Z s5 t5) ++ wSo Z n16 z4 (nI (((([] : List Nat) ++ txN n fu (kdA q)) ++ cTx 26) ++ txN n fu (kdB q)).length)) ++ arrB Z z4 k4 m4) ++ arrB Z t5 ((((([] : List Nat) ++ txN n fu (kdA q)) ++ cTx 26) ++ txN n fu (kdB q)).length) b5) ++ wPl Z L) (by simp only [List.append_assoc, List.append_nil, List.nil_append]) ?_
          refine J_drop [] ((arrS Z n1 6 (wdA Z) ++ arrS Z n2 6 (wdB Z)) ++ arrS Z n3 5 (wdC Z)) ((((wTo Z s5 t5 ++ wSo Z n16 z4 (nI (((([] : List Nat) ++ txN n fu (kdA q)) ++ cTx 26) ++ txN n fu (kdB q)).length)) ++ arrB Z z4 k4 m4) ++ arrB Z t5 ((((([] : List Nat) ++ txN n fu (kdA q)) ++ cTx 26) ++ txN n fu (kdB q)).length) b5) ++ wPl Z L) (by simp only [List.append_assoc, List.append_nil, List.nil_append]) ?_
          refine J_ws ((((wTo Z s5 t5 ++ wSo Z n16 z4 (nI (((([] : List Nat) ++ txN n fu (kdA q)) ++ cTx 26) ++ txN n fu (kdB q)).length)) ++ arrB Z z4 k4 m4) ++ arrB Z t5 ((((([] : List Nat) ++ txN n fu (kdA q)) ++ cTx 26) ++ txN n fu (kdB q)).length) b5) ++ wPl Z L) (by simp only [List.append_assoc, List.append_nil, List.nil_append]) ?_
          refine J_drop (wTo Z s5 t5) ((wSo Z n16 z4 (nI (((([] : List Nat) ++ txN n fu (kdA q)) ++ cTx 26) ++ txN n fu (kdB q)).length)) ++ arrB Z z4 k4 m4) ((arrB Z t5 ((((([] : List Nat) ++ txN n fu (kdA q)) ++ cTx 26) ++ txN n fu (kdB q)).length) b5) ++ wPl Z L) (by simp only [List.append_assoc, List.append_nil, List.nil_append]) ?_
          refine J_ws ((wTo Z s5 t5 ++ arrB Z t5 ((((([] : List Nat) ++ txN n fu (kdA q)) ++ cTx 26) ++ txN n fu (kdB q)).length) b5) ++ wPl Z L) (by simp only [List.append_assoc, List.append_nil, List.nil_append]) ?_
          refine J_perm ((wTo Z s5 t5 ++ wPl Z L) ++ arrB Z t5 ((((([] : List Nat) ++ txN n fu (kdA q)) ++ cTx 26) ++ txN n fu (kdB q)).length) b5) (sw2 _ _ _) ?_
          refine J_perm ((wPl Z L ++ wTo Z s5 t5) ++ arrB Z t5 ((((([] : List Nat) ++ txN n fu (kdA q)) ++ cTx 26) ++ txN n fu (kdB q)).length) b5) (List.perm_append_comm.append_right _) ?_
          exact J_aret C E iX10_text_413 (Or.inl ⟨_, rfl⟩) (Or.inr ⟨s5, _, _, rfl, rfl, h5⟩)
        · refine J_room (rc2 := (tcN fu) + (13 + 0 * tcN fu)) (rs2 := (tsN fu) + (22959 + 0 * tsN fu)) (by omega) (by omega) ?_
          obtain ⟨j1_, e1_, f1_⟩ := InT.at hxb
          refine J_cVb (As := []) (st := .ref n16 :: []) (rc2 := 13 + 0 * tcN fu) (rs2 := 22959 + 0 * tsN fu) (w0 := wPl Z L) (q0 := j1_) C iX10_text_404 lm_X10_111 yc_X10_text yv_X10_text (ih (q := kdB q) hxb (by simp only [List.length_append] at hl9; omega)) rfl rfl (wPl_at f1_) ((((arrS Z n1 6 (wdA Z) ++ arrS Z n2 6 (wdB Z)) ++ arrS Z n3 5 (wdC Z)) ++ wSo Z n16 y3 (nI ((([] : List Nat) ++ txN n fu (kdA q)) ++ cTx 26).length)) ++ arrB Z y3 c3 b3) [] (by simp only [List.append_assoc, List.append_nil, List.nil_append]) rfl (rmT_le (by omega) (by decide)) (Nat.le_of_ble_eq_true rfl) rfl rfl ?_
          rintro _ _ (⟨j4, hj4, rfl, rfl, e4⟩ | ⟨s4, t4, b4, rfl, rfl, e4⟩)
          · refine J_st (.ref (zsk Z j4) :: .ref n16 :: []) rfl ?_
            refine J_ws (((((arrS Z n1 6 (wdA Z) ++ arrS Z n2 6 (wdB Z)) ++ arrS Z n3 5 (wdC Z)) ++ wSo Z n16 y3 (nI ((([] : List Nat) ++ txN n fu (kdA q)) ++ cTx 26).length)) ++ arrB Z y3 c3 b3) ++ wPl Z L) (by simp only [List.append_assoc, List.append_nil, List.nil_append]) ?_
            refine J_room (rc2 := 1 + (12 + 0 * tcN fu)) (rs2 := 4002 + (18957 + 0 * tsN fu)) (by omega) (by omega) ?_
            refine J_cVb (As := [.ref (zsk Z j4)]) (st := []) (rc2 := 12 + 0 * tcN fu) (rs2 := 18957 + 0 * tsN fu) (w0 := ((wSo Z n16 y3 (nI ((([] : List Nat) ++ txN n fu (kdA q)) ++ cTx 26).length)) ++ arrB Z y3 c3 b3)) (q0 := 0) C iX10_text_407 lm_X10_96 yc_J4_append_15ec4 yv_J4_append_15ec4 (c_J4_append_C (T := ((([] : List Nat) ++ txN n fu (kdA q)) ++ cTx 26)) (i := j4) h3 hj4 (by rw [← e4]; simp only [List.length_append, List.length_nil] at hl9 ⊢; omega)) rfl rfl rfl ((arrS Z n1 6 (wdA Z) ++ arrS Z n2 6 (wdB Z)) ++ arrS Z n3 5 (wdC Z)) (wPl Z L) (by simp only [List.append_assoc, List.append_nil, List.nil_append]) rfl (rmT_m (by decide) (by decide)) (Nat.le_of_ble_eq_true rfl) rfl rfl ?_
            rintro _ _ ⟨rfl, y6, c6, b6, rfl, h6⟩
            refine J_st (.ref n16 :: []) rfl ?_
            refine J_ws (((((arrS Z n1 6 (wdA Z) ++ arrS Z n2 6 (wdB Z)) ++ arrS Z n3 5 (wdC Z)) ++ wSo Z n16 y6 (nI (((([] : List Nat) ++ txN n fu (kdA q)) ++ cTx 26) ++ cTx j4).length)) ++ arrB Z y6 c6 b6) ++ wPl Z L) (by simp only [List.append_assoc, List.append_nil, List.nil_append]) ?_
            rw [← e4]
            exact hk410_4 (y6, c6, b6) (by rw [e4]; exact h6)
          · refine J_st (.ref s4 :: .ref n16 :: []) rfl ?_
            refine J_ws (((((((arrS Z n1 6 (wdA Z) ++ arrS Z n2 6 (wdB Z)) ++ arrS Z n3 5 (wdC Z)) ++ wSo Z n16 y3 (nI ((([] : List Nat) ++ txN n fu (kdA q)) ++ cTx 26).length)) ++ arrB Z y3 c3 b3) ++ wPl Z L) ++ wTo Z s4 t4) ++ arrB Z t4 ((txN n fu (kdB q)).length) b4) (by simp only [List.append_assoc, List.append_nil, List.nil_append]) ?_
            refine J_perm (((((((arrS Z n1 6 (wdA Z) ++ arrS Z n2 6 (wdB Z)) ++ arrS Z n3 5 (wdC Z)) ++ wSo Z n16 y3 (nI ((([] : List Nat) ++ txN n fu (kdA q)) ++ cTx 26).length)) ++ arrB Z y3 c3 b3) ++ wTo Z s4 t4) ++ wPl Z L) ++ arrB Z t4 ((txN n fu (kdB q)).length) b4) ((sw2 _ _ _).append_right _) ?_
            refine J_perm (((((((arrS Z n1 6 (wdA Z) ++ arrS Z n2 6 (wdB Z)) ++ arrS Z n3 5 (wdC Z)) ++ wSo Z n16 y3 (nI ((([] : List Nat) ++ txN n fu (kdA q)) ++ cTx 26).length)) ++ arrB Z y3 c3 b3) ++ wTo Z s4 t4) ++ arrB Z t4 ((txN n fu (kdB q)).length) b4) ++ wPl Z L) (sw2 _ _ _) ?_
            refine J_room (rc2 := 1 + (12 + 0 * tcN fu)) (rs2 := 4002 + (18957 + 0 * tsN fu)) (by omega) (by omega) ?_
            refine J_cVb (As := [.ref s4]) (st := []) (rc2 := 12 + 0 * tcN fu) (rs2 := 18957 + 0 * tsN fu) (w0 := ((((wSo Z n16 y3 (nI ((([] : List Nat) ++ txN n fu (kdA q)) ++ cTx 26).length)) ++ arrB Z y3 c3 b3) ++ wTo Z s4 t4) ++ arrB Z t4 ((txN n fu (kdB q)).length) b4)) (q0 := 0) C iX10_text_407 lm_X10_96 yc_J4_append_15ec4 yv_J4_append_15ec4 (c_J4_append_D (T := ((([] : List Nat) ++ txN n fu (kdA q)) ++ cTx 26)) (S := txN n fu (kdB q)) h3 e4 (by simp only [List.length_append, List.length_nil] at hl9 ⊢; omega)) rfl rfl rfl ((arrS Z n1 6 (wdA Z) ++ arrS Z n2 6 (wdB Z)) ++ arrS Z n3 5 (wdC Z)) (wPl Z L) (by simp only [List.append_assoc, List.append_nil, List.nil_append]) rfl (rmT_m (by decide) (by decide)) (Nat.le_of_ble_eq_true rfl) rfl rfl ?_
            rintro _ _ ⟨rfl, y7, c7, b7, rfl, h7⟩
            refine J_st (.ref n16 :: []) rfl ?_
            refine J_ws (((((((arrS Z n1 6 (wdA Z) ++ arrS Z n2 6 (wdB Z)) ++ arrS Z n3 5 (wdC Z)) ++ wSo Z n16 y7 (nI (((([] : List Nat) ++ txN n fu (kdA q)) ++ cTx 26) ++ txN n fu (kdB q)).length)) ++ arrB Z y7 c7 b7) ++ wTo Z s4 t4) ++ arrB Z t4 ((txN n fu (kdB q)).length) b4) ++ wPl Z L) (by simp only [List.append_assoc, List.append_nil, List.nil_append]) ?_
            refine J_drop ((((arrS Z n1 6 (wdA Z) ++ arrS Z n2 6 (wdB Z)) ++ arrS Z n3 5 (wdC Z)) ++ wSo Z n16 y7 (nI (((([] : List Nat) ++ txN n fu (kdA q)) ++ cTx 26) ++ txN n fu (kdB q)).length)) ++ arrB Z y7 c7 b7) (wTo Z s4 t4 ++ arrB Z t4 ((txN n fu (kdB q)).length) b4) (wPl Z L) (by simp only [List.append_assoc, List.append_nil, List.nil_append]) ?_
            refine J_ws (((((arrS Z n1 6 (wdA Z) ++ arrS Z n2 6 (wdB Z)) ++ arrS Z n3 5 (wdC Z)) ++ wSo Z n16 y7 (nI (((([] : List Nat) ++ txN n fu (kdA q)) ++ cTx 26) ++ txN n fu (kdB q)).length)) ++ arrB Z y7 c7 b7) ++ wPl Z L) (by simp only [List.append_assoc, List.append_nil, List.nil_append]) ?_
            exact hk410_4 (y7, c7, b7) h7
      · refine J_room (rc2 := (tcN fu) + (15 + 1 * tcN fu)) (rs2 := (tsN fu) + (30963 + 1 * tsN fu)) (by omega) (by omega) ?_
        obtain ⟨j2_, e2_, f2_⟩ := InT.at hxa
        refine J_cVb (As := []) (st := .ref n16 :: []) (rc2 := 15 + 1 * tcN fu) (rs2 := 30963 + 1 * tsN fu) (w0 := wPl Z L) (q0 := j2_) C iX10_text_382 lm_X10_111 yc_X10_text yv_X10_text (ih (q := kdA q) hxa (by simp only [List.length_append] at hl9; omega)) rfl rfl (wPl_at f2_) ((((arrS Z n1 6 (wdA Z) ++ arrS Z n2 6 (wdB Z)) ++ arrS Z n3 5 (wdC Z)) ++ wSo Z n16 q1 0) ++ arrB Z q1 16 (fun _ => 0)) [] (by simp only [List.append_assoc, List.append_nil, List.nil_append]) rfl (rmT_le (by omega) (by decide)) (Nat.le_of_ble_eq_true rfl) rfl rfl ?_
        rintro _ _ (⟨j2, hj2, rfl, rfl, e2⟩ | ⟨s2, t2, b2, rfl, rfl, e2⟩)
        · refine J_st (.ref (zsk Z j2) :: .ref n16 :: []) rfl ?_
          refine J_ws (((((arrS Z n1 6 (wdA Z) ++ arrS Z n2 6 (wdB Z)) ++ arrS Z n3 5 (wdC Z)) ++ wSo Z n16 q1 0) ++ arrB Z q1 16 (fun _ => 0)) ++ wPl Z L) (by simp only [List.append_assoc, List.append_nil, List.nil_append]) ?_
          refine J_room (rc2 := 1 + (14 + 1 * tcN fu)) (rs2 := 4002 + (26961 + 1 * tsN fu)) (by omega) (by omega) ?_
          refine J_cVb (As := [.ref (zsk Z j2)]) (st := []) (rc2 := 14 + 1 * tcN fu) (rs2 := 26961 + 1 * tsN fu) (w0 := (wSo Z n16 q1 0 ++ arrB Z q1 16 (fun _ => 0))) (q0 := 0) C iX10_text_385 lm_X10_96 yc_J4_append_15ec4 yv_J4_append_15ec4 (c_J4_append_C (T := ([] : List Nat)) (i := j2) sb_new hj2 (by rw [← e2]; simp only [List.length_append, List.length_nil] at hl9 ⊢; omega)) rfl rfl rfl ((arrS Z n1 6 (wdA Z) ++ arrS Z n2 6 (wdB Z)) ++ arrS Z n3 5 (wdC Z)) (wPl Z L) (by simp only [List.append_assoc, List.append_nil, List.nil_append]) rfl (rmT_m (by decide) (by decide)) (Nat.le_of_ble_eq_true rfl) rfl rfl ?_
          rintro _ _ ⟨rfl, y8, c8, b8, rfl, h8⟩
          refine J_st (.ref n16 :: []) rfl ?_
          refine J_ws (((((arrS Z n1 6 (wdA Z) ++ arrS Z n2 6 (wdB Z)) ++ arrS Z n3 5 (wdC Z)) ++ wSo Z n16 y8 (nI (([] : List Nat) ++ cTx j2).length)) ++ arrB Z y8 c8 b8) ++ wPl Z L) (by simp only [List.append_assoc, List.append_nil, List.nil_append]) ?_
          rw [← e2]
          exact hk388_2 (y8, c8, b8) (by rw [e2]; exact h8)
        · refine J_st (.ref s2 :: .ref n16 :: []) rfl ?_
          refine J_ws (((((((arrS Z n1 6 (wdA Z) ++ arrS Z n2 6 (wdB Z)) ++ arrS Z n3 5 (wdC Z)) ++ wSo Z n16 q1 0) ++ arrB Z q1 16 (fun _ => 0)) ++ wPl Z L) ++ wTo Z s2 t2) ++ arrB Z t2 ((txN n fu (kdA q)).length) b2) (by simp only [List.append_assoc, List.append_nil, List.nil_append]) ?_
          refine J_perm (((((((arrS Z n1 6 (wdA Z) ++ arrS Z n2 6 (wdB Z)) ++ arrS Z n3 5 (wdC Z)) ++ wSo Z n16 q1 0) ++ arrB Z q1 16 (fun _ => 0)) ++ wTo Z s2 t2) ++ wPl Z L) ++ arrB Z t2 ((txN n fu (kdA q)).length) b2) ((sw2 _ _ _).append_right _) ?_
          refine J_perm (((((((arrS Z n1 6 (wdA Z) ++ arrS Z n2 6 (wdB Z)) ++ arrS Z n3 5 (wdC Z)) ++ wSo Z n16 q1 0) ++ arrB Z q1 16 (fun _ => 0)) ++ wTo Z s2 t2) ++ arrB Z t2 ((txN n fu (kdA q)).length) b2) ++ wPl Z L) (sw2 _ _ _) ?_
          refine J_room (rc2 := 1 + (14 + 1 * tcN fu)) (rs2 := 4002 + (26961 + 1 * tsN fu)) (by omega) (by omega) ?_
          refine J_cVb (As := [.ref s2]) (st := []) (rc2 := 14 + 1 * tcN fu) (rs2 := 26961 + 1 * tsN fu) (w0 := (((wSo Z n16 q1 0 ++ arrB Z q1 16 (fun _ => 0)) ++ wTo Z s2 t2) ++ arrB Z t2 ((txN n fu (kdA q)).length) b2)) (q0 := 0) C iX10_text_385 lm_X10_96 yc_J4_append_15ec4 yv_J4_append_15ec4 (c_J4_append_D (T := ([] : List Nat)) (S := txN n fu (kdA q)) sb_new e2 (by simp only [List.length_append, List.length_nil] at hl9 ⊢; omega)) rfl rfl rfl ((arrS Z n1 6 (wdA Z) ++ arrS Z n2 6 (wdB Z)) ++ arrS Z n3 5 (wdC Z)) (wPl Z L) (by simp only [List.append_assoc, List.append_nil, List.nil_append]) rfl (rmT_m (by decide) (by decide)) (Nat.le_of_ble_eq_true rfl) rfl rfl ?_
          rintro _ _ ⟨rfl, y9, c9, b9, rfl, h9⟩
          refine J_st (.ref n16 :: []) rfl ?_
          refine J_ws (((((((arrS Z n1 6 (wdA Z) ++ arrS Z n2 6 (wdB Z)) ++ arrS Z n3 5 (wdC Z)) ++ wSo Z n16 y9 (nI (([] : List Nat) ++ txN n fu (kdA q)).length)) ++ arrB Z y9 c9 b9) ++ wTo Z s2 t2) ++ arrB Z t2 ((txN n fu (kdA q)).length) b2) ++ wPl Z L) (by simp only [List.append_assoc, List.append_nil, List.nil_append]) ?_
          refine J_drop ((((arrS Z n1 6 (wdA Z) ++ arrS Z n2 6 (wdB Z)) ++ arrS Z n3 5 (wdC Z)) ++ wSo Z n16 y9 (nI (([] : List Nat) ++ txN n fu (kdA q)).length)) ++ arrB Z y9 c9 b9) (wTo Z s2 t2 ++ arrB Z t2 ((txN n fu (kdA q)).length) b2) (wPl Z L) (by simp only [List.append_assoc, List.append_nil, List.nil_append]) ?_
          refine J_ws (((((arrS Z n1 6 (wdA Z) ++ arrS Z n2 6 (wdB Z)) ++ arrS Z n3 5 (wdC Z)) ++ wSo Z n16 y9 (nI (([] : List Nat) ++ txN n fu (kdA q)).length)) ++ arrB Z y9 c9 b9) ++ wPl Z L) (by simp only [List.append_assoc, List.append_nil, List.nil_append]) ?_
          exact hk388_2 (y9, c9, b9) h9
    · rw [hk] at hi9 hbA hbB
      obtain ⟨xa, rfl, hxa⟩ := hbA rfl
      obtain ⟨xb, rfl, hxb⟩ := hbB rfl
      have htx : txN n (fu + 1) q = (((([] : List Nat) ++ (txN n fu (kdA q))) ++ cTx 27) ++ (txN n fu (kdB q))) := by rw [txN, tx1, if_neg (by omega), if_neg (by omega), if_neg (by omega), if_neg (by omega), if_neg (by omega), if_neg (by omega), if_neg (by omega), if_neg (by omega), if_neg (by omega), if_neg (by omega), if_neg (by omega), if_neg (by omega), if_neg (by omega), if_neg (by omega), if_neg (by omega), if_pos hk]
      rw [htx] at hl9 ⊢
      refine J_aload_n C iX10_text_102 rfl rfl ?_
      refine J_get (.int 22) ((((arrS Z n1 6 (wdA Z) ++ arrS Z n2 6 (wdB Z)) ++ arrS Z n3 5 (wdC Z))).length + i) C iX10_text_103 gf_X10_7 (mid_at (A := ((arrS Z n1 6 (wdA Z) ++ arrS Z n2 6 (wdB Z)) ++ arrS Z n3 5 (wdC Z))) (M := wPl Z L) (B := []) (by simp only [List.append_assoc, List.append_nil, List.nil_append]) (wPl_at hi9)) rfl ?_
      refine J_ifne 132 C iX10_text_106 rfl (fun h106 => ?_) (fun h106 => absurd h106 (by decide))
      refine J_aload_n C iX10_text_132 rfl rfl ?_
      refine J_get (.int 22) ((((arrS Z n1 6 (wdA Z) ++ arrS Z n2 6 (wdB Z)) ++ arrS Z n3 5 (wdC Z))).length + i) C iX10_text_133 gf_X10_7 (mid_at (A := ((arrS Z n1 6 (wdA Z) ++ arrS Z n2 6 (wdB Z)) ++ arrS Z n3 5 (wdC Z))) (M := wPl Z L) (B := []) (by simp only [List.append_assoc, List.append_nil, List.nil_append]) (wPl_at hi9)) rfl ?_
      refine J_iconst 3 C iX10_text_136 rfl ?_
      refine J_icmpge 147 C iX10_text_137 rfl (fun h137 => ?_) (fun h137 => absurd (by decide) h137)
      refine J_aload_n C iX10_text_147 rfl rfl ?_
      refine J_get (.int 22) ((((arrS Z n1 6 (wdA Z) ++ arrS Z n2 6 (wdB Z)) ++ arrS Z n3 5 (wdC Z))).length + i) C iX10_text_148 gf_X10_7 (mid_at (A := ((arrS Z n1 6 (wdA Z) ++ arrS Z n2 6 (wdB Z)) ++ arrS Z n3 5 (wdC Z))) (M := wPl Z L) (B := []) (by simp only [List.append_assoc, List.append_nil, List.nil_append]) (wPl_at hi9)) rfl ?_
      refine J_bipush 6 C iX10_text_151 rfl ?_
      refine J_icmpge 188 C iX10_text_153 rfl (fun h153 => ?_) (fun h153 => absurd (by decide) h153)
      refine J_aload_n C iX10_text_188 rfl rfl ?_
      refine J_get (.int 22) ((((arrS Z n1 6 (wdA Z) ++ arrS Z n2 6 (wdB Z)) ++ arrS Z n3 5 (wdC Z))).length + i) C iX10_text_189 gf_X10_7 (mid_at (A := ((arrS Z n1 6 (wdA Z) ++ arrS Z n2 6 (wdB Z)) ++ arrS Z n3 5 (wdC Z))) (M := wPl Z L) (B := []) (by simp only [List.append_assoc, List.append_nil, List.nil_append]) (wPl_at hi9)) rfl ?_
      refine J_bipush 6 C iX10_text_192 rfl ?_
      refine J_icmpne 228 C iX10_text_194 rfl (fun h194 => ?_) (fun h194 => absurd h194 (by decide))
      refine J_aload_n C iX10_text_228 rfl rfl ?_
      refine J_get (.int 22) ((((arrS Z n1 6 (wdA Z) ++ arrS Z n2 6 (wdB Z)) ++ arrS Z n3 5 (wdC Z))).length + i) C iX10_text_229 gf_X10_7 (mid_at (A := ((arrS Z n1 6 (wdA Z) ++ arrS Z n2 6 (wdB Z)) ++ arrS Z n3 5 (wdC Z))) (M := wPl Z L) (B := []) (by simp only [List.append_assoc, List.append_nil, List.nil_append]) (wPl_at hi9)) rfl ?_
      refine J_bipush 11 C iX10_text_232 rfl ?_
      refine J_icmpge 300 C iX10_text_234 rfl (fun h234 => ?_) (fun h234 => absurd (by decide) h234)
      refine J_aload_n C iX10_text_300 rfl rfl ?_
      refine J_get (.int 22) ((((arrS Z n1 6 (wdA Z) ++ arrS Z n2 6 (wdB Z)) ++ arrS Z n3 5 (wdC Z))).length + i) C iX10_text_301 gf_X10_7 (mid_at (A := ((arrS Z n1 6 (wdA Z) ++ arrS Z n2 6 (wdB Z)) ++ arrS Z n3 5 (wdC Z))) (M := wPl Z L) (B := []) (by simp only [List.append_assoc, List.append_nil, List.nil_append]) (wPl_at hi9)) rfl ?_
      refine J_bipush 13 C iX10_text_304 rfl ?_
      refine J_icmpge 362 C iX10_text_306 rfl (fun h306 => ?_) (fun h306 => absurd (by decide) h306)
      refine J_aload_n C iX10_text_362 rfl rfl ?_
      refine J_get (.int 22) ((((arrS Z n1 6 (wdA Z) ++ arrS Z n2 6 (wdB Z)) ++ arrS Z n3 5 (wdC Z))).length + i) C iX10_text_363 gf_X10_7 (mid_at (A := ((arrS Z n1 6 (wdA Z) ++ arrS Z n2 6 (wdB Z)) ++ arrS Z n3 5 (wdC Z))) (M := wPl Z L) (B := []) (by simp only [List.append_assoc, List.append_nil, List.nil_append]) (wPl_at hi9)) rfl ?_
      refine J_bipush 25 C iX10_text_366 rfl ?_
      refine J_icmpge 414 C iX10_text_368 rfl (fun h368 => absurd h368 (by decide)) (fun h368 => ?_)
      refine J_room (rc2 := 1 + (16 + 2 * tcN fu)) (rs2 := 4 + (30979 + 2 * tsN fu)) (by omega) (by omega) ?_
      refine J_new (ci := 11) [.null, .int 0, .int 0, .int 0] tyJ4 C iX10_text_371 rfl lay_J4 tyJ4_ok (tsg_in (i := 1410) (by decide +kernel) rfl) (tsg_in (i := 1411) (by decide +kernel) rfl) (tsg_in (i := 45) (by decide +kernel) rfl) df_J4 (fun n17 => ?_)
      refine J_ws ((((arrS Z n1 6 (wdA Z) ++ arrS Z n2 6 (wdB Z)) ++ arrS Z n3 5 (wdC Z)) ++ wPl Z L) ++ wS0 Z n17) rfl ?_
      refine J_perm ((((arrS Z n1 6 (wdA Z) ++ arrS Z n2 6 (wdB Z)) ++ arrS Z n3 5 (wdC Z)) ++ wS0 Z n17) ++ wPl Z L) (sw2 _ _ _) ?_
      refine J_dup C iX10_text_374 rfl ?_
      refine J_room (rc2 := 1 + (15 + 2 * tcN fu)) (rs2 := 16 + (30963 + 2 * tsN fu)) (by omega) (by omega) ?_
      refine J_cIb (As := []) (st := .ref n17 :: []) (rc2 := 15 + 2 * tcN fu) (rs2 := 30963 + 2 * tsN fu) (w0 := (wS0 Z n17)) C iX10_text_375 lm_X10_95 yc_J4_init_da8c8 yi_J4_init_da8c8 c_J4_init_da8c8 ((arrS Z n1 6 (wdA Z) ++ arrS Z n2 6 (wdB Z)) ++ arrS Z n3 5 (wdC Z)) (wPl Z L) (by simp only [List.append_assoc, List.append_nil, List.nil_append]) rfl (rmT_m (by decide) (by decide)) (Nat.le_of_ble_eq_true rfl) rfl rfl ?_
      rintro _ _ ⟨rfl, q1, rfl⟩
      refine J_st (.ref n17 :: []) rfl ?_
      refine J_ws (((((arrS Z n1 6 (wdA Z) ++ arrS Z n2 6 (wdB Z)) ++ arrS Z n3 5 (wdC Z)) ++ wSo Z n17 q1 0) ++ arrB Z q1 16 (fun _ => 0)) ++ wPl Z L) (by simp only [List.append_assoc, List.append_nil, List.nil_append]) ?_
      refine J_aload_n C iX10_text_378 rfl rfl ?_
      refine J_get (.ref xa) ((((((arrS Z n1 6 (wdA Z) ++ arrS Z n2 6 (wdB Z)) ++ arrS Z n3 5 (wdC Z)) ++ wSo Z n17 q1 0) ++ arrB Z q1 16 (fun _ => 0))).length + i) C iX10_text_379 gf_X10_36 (mid_at (A := ((((arrS Z n1 6 (wdA Z) ++ arrS Z n2 6 (wdB Z)) ++ arrS Z n3 5 (wdC Z)) ++ wSo Z n17 q1 0) ++ arrB Z q1 16 (fun _ => 0))) (M := wPl Z L) (B := []) (by simp only [List.append_assoc, List.append_nil, List.nil_append]) (wPl_at hi9)) rfl ?_
      refine J_alt (ι := Nat × Nat × (Nat → Int32)) (P := fun i9 => SbT (([] : List Nat) ++ txN n fu (kdA q)) i9.2.1 i9.2.2) (14 + 1 * tcN fu) (26961 + 1 * tsN fu) 388 (fun _ => [(3, .ref n3), (2, .ref n2), (1, .ref n1), (0, .ref a)]) (fun _ => .ref n17 :: []) (fun i9 => (((((arrS Z n1 6 (wdA Z) ++ arrS Z n2 6 (wdB Z)) ++ arrS Z n3 5 (wdC Z)) ++ wSo Z n17 i9.1 (nI (([] : List Nat) ++ txN n fu (kdA q)).length)) ++ arrB Z i9.1 i9.2.1 i9.2.2) ++ wPl Z L)) (fun i9 hi9_ => ?_) (fun hk388_2 => ?_)
      · obtain ⟨z2, k2, m2⟩ := i9
        have g2 : SbT (([] : List Nat) ++ txN n fu (kdA q)) k2 m2 := hi9_
        refine J_ws (((((arrS Z n1 6 (wdA Z) ++ arrS Z n2 6 (wdB Z)) ++ arrS Z n3 5 (wdC Z)) ++ wSo Z n17 z2 (nI (([] : List Nat) ++ txN n fu (kdA q)).length)) ++ arrB Z z2 k2 m2) ++ wPl Z L) rfl ?_
        refine J_aload_n C iX10_text_388 rfl rfl ?_
        refine J_aload_n C iX10_text_389 rfl rfl ?_
        refine J_get (.int 22) ((((((arrS Z n1 6 (wdA Z) ++ arrS Z n2 6 (wdB Z)) ++ arrS Z n3 5 (wdC Z)) ++ wSo Z n17 z2 (nI (([] : List Nat) ++ txN n fu (kdA q)).length)) ++ arrB Z z2 k2 m2)).length + i) C iX10_text_390 gf_X10_7 (mid_at (A := ((((arrS Z n1 6 (wdA Z) ++ arrS Z n2 6 (wdB Z)) ++ arrS Z n3 5 (wdC Z)) ++ wSo Z n17 z2 (nI (([] : List Nat) ++ txN n fu (kdA q)).length)) ++ arrB Z z2 k2 m2)) (M := wPl Z L) (B := []) (by simp only [List.append_assoc, List.append_nil, List.nil_append]) (wPl_at hi9)) rfl ?_
        refine J_bipush 20 C iX10_text_393 rfl ?_
        refine J_isub C iX10_text_395 ?_
        rw [show (22 - 20 : Int32) = 2 from rfl]
        refine J_aaldS 2 C iX10_text_396 rfl (vp_in_nI (n := 2) (by decide) (by decide)) ?_
        rw [show Int32.toNatClampNeg 2 = 2 from rfl]
        refine J_st (.ref (zsk Z 27) :: .ref n17 :: []) rfl ?_
        refine J_room (rc2 := 1 + (13 + 1 * tcN fu)) (rs2 := 4002 + (22959 + 1 * tsN fu)) (by omega) (by omega) ?_
        refine J_cVb (As := [.ref (zsk Z 27)]) (st := []) (rc2 := 13 + 1 * tcN fu) (rs2 := 22959 + 1 * tsN fu) (w0 := ((wSo Z n17 z2 (nI (([] : List Nat) ++ txN n fu (kdA q)).length)) ++ arrB Z z2 k2 m2)) (q0 := 0) C iX10_text_397 lm_X10_96 yc_J4_append_15ec4 yv_J4_append_15ec4 (c_J4_append_C (T := (([] : List Nat) ++ txN n fu (kdA q))) (i := 27) g2 (by decide) (by simp only [List.length_append, List.length_nil] at hl9 ⊢; omega)) rfl rfl rfl ((arrS Z n1 6 (wdA Z) ++ arrS Z n2 6 (wdB Z)) ++ arrS Z n3 5 (wdC Z)) (wPl Z L) (by simp only [List.append_assoc, List.append_nil, List.nil_append]) rfl (rmT_m (by decide) (by decide)) (Nat.le_of_ble_eq_true rfl) rfl rfl ?_
        rintro _ _ ⟨rfl, y3, c3, b3, rfl, h3⟩
        refine J_st (.ref n17 :: []) rfl ?_
        refine J_ws (((((arrS Z n1 6 (wdA Z) ++ arrS Z n2 6 (wdB Z)) ++ arrS Z n3 5 (wdC Z)) ++ wSo Z n17 y3 (nI ((([] : List Nat) ++ txN n fu (kdA q)) ++ cTx 27).length)) ++ arrB Z y3 c3 b3) ++ wPl Z L) (by simp only [List.append_assoc, List.append_nil, List.nil_append]) ?_
        refine J_aload_n C iX10_text_400 rfl rfl ?_
        refine J_get (.ref xb) ((((((arrS Z n1 6 (wdA Z) ++ arrS Z n2 6 (wdB Z)) ++ arrS Z n3 5 (wdC Z)) ++ wSo Z n17 y3 (nI ((([] : List Nat) ++ txN n fu (kdA q)) ++ cTx 27).length)) ++ arrB Z y3 c3 b3)).length + i) C iX10_text_401 gf_X10_51 (mid_at (A := ((((arrS Z n1 6 (wdA Z) ++ arrS Z n2 6 (wdB Z)) ++ arrS Z n3 5 (wdC Z)) ++ wSo Z n17 y3 (nI ((([] : List Nat) ++ txN n fu (kdA q)) ++ cTx 27).length)) ++ arrB Z y3 c3 b3)) (M := wPl Z L) (B := []) (by simp only [List.append_assoc, List.append_nil, List.nil_append]) (wPl_at hi9)) rfl ?_
        refine J_alt (ι := Nat × Nat × (Nat → Int32)) (P := fun i9 => SbT (((([] : List Nat) ++ txN n fu (kdA q)) ++ cTx 27) ++ txN n fu (kdB q)) i9.2.1 i9.2.2) (12 + 0 * tcN fu) (18957 + 0 * tsN fu) 410 (fun _ => [(3, .ref n3), (2, .ref n2), (1, .ref n1), (0, .ref a)]) (fun _ => .ref n17 :: []) (fun i9 => (((((arrS Z n1 6 (wdA Z) ++ arrS Z n2 6 (wdB Z)) ++ arrS Z n3 5 (wdC Z)) ++ wSo Z n17 i9.1 (nI (((([] : List Nat) ++ txN n fu (kdA q)) ++ cTx 27) ++ txN n fu (kdB q)).length)) ++ arrB Z i9.1 i9.2.1 i9.2.2) ++ wPl Z L)) (fun i9 hi9_ => ?_) (fun hk410_4 => ?_)
        · obtain ⟨z4, k4, m4⟩ := i9
          have g4 : SbT (((([] : List Nat) ++ txN n fu (kdA q)) ++ cTx 27) ++ txN n fu (kdB q)) k4 m4 := hi9_
          refine J_ws (((((arrS Z n1 6 (wdA Z) ++ arrS Z n2 6 (wdB Z)) ++ arrS Z n3 5 (wdC Z)) ++ wSo Z n17 z4 (nI (((([] : List Nat) ++ txN n fu (kdA q)) ++ cTx 27) ++ txN n fu (kdB q)).length)) ++ arrB Z z4 k4 m4) ++ wPl Z L) rfl ?_
          refine J_room (rc2 := 2 + (10 + 0 * tcN fu)) (rs2 := 2004 + (16953 + 0 * tsN fu)) (by omega) (by omega) ?_
          refine J_cVb (As := []) (st := []) (rc2 := 10 + 0 * tcN fu) (rs2 := 16953 + 0 * tsN fu) (w0 := ((wSo Z n17 z4 (nI (((([] : List Nat) ++ txN n fu (kdA q)) ++ cTx 27) ++ txN n fu (kdB q)).length)) ++ arrB Z z4 k4 m4)) (q0 := 0) C iX10_text_410 lm_X10_103 yc_J4_toString_0e30d yv_J4_toString_0e30d (c_J4_toString_0e30d (T := (((([] : List Nat) ++ txN n fu (kdA q)) ++ cTx 27) ++ txN n fu (kdB q))) g4 (by simp only [List.length_append, List.length_nil] at hl9 ⊢; omega)) rfl rfl rfl ((arrS Z n1 6 (wdA Z) ++ arrS Z n2 6 (wdB Z)) ++ arrS Z n3 5 (wdC Z)) (wPl Z L) (by simp only [List.append_assoc, List.append_nil, List.nil_append]) rfl (rmT_m (by decide) (by decide)) (Nat.le_of_ble_eq_true rfl) rfl rfl ?_
          rintro _ _ ⟨s5, t5, b5, rfl, rfl, h5⟩
          refine J_st (.ref s5 :: []) rfl ?_
          refine J_ws (((((((arrS Z n1 6 (wdA Z) ++ arrS Z n2 6 (wdB Z)) ++ arrS Z n3 5 (wdC Z)) ++ wTo Z s5 t5) ++ wSo Z n17 z4 (nI (((([] : List Nat) ++ txN n fu (kdA q)) ++ cTx 27) ++ txN n fu (kdB q)).length)) ++ arrB Z z4 k4 m4) ++ arrB Z t5 ((((([] : List Nat) ++ txN n fu (kdA q)) ++ cTx 27) ++ txN n fu (kdB q)).length) b5) ++ wPl Z L) (by simp only [List.append_assoc, List.append_nil, List.nil_append]) ?_
          refine J_drop [] ((arrS Z n1 6 (wdA Z) ++ arrS Z n2 6 (wdB Z)) ++ arrS Z n3 5 (wdC Z)) ((((wTo Z s5 t5 ++ wSo Z n17 z4 (nI (((([] : List Nat) ++ txN n fu (kdA q)) ++ cTx 27) ++ txN n fu (kdB q)).length)) ++ arrB Z z4 k4 m4) ++ arrB Z t5 ((((([] : List Nat) ++ txN n fu (kdA q)) ++ cTx 27) ++ txN n fu (kdB q)).length) b5) ++ wPl Z L) (by simp only [List.append_assoc, List.append_nil, List.nil_append]) ?_
          refine J_ws ((((wTo Z s5 t5 ++ wSo Z n17 z4 (nI (((([] : List Nat) ++ txN n fu (kdA q)) ++ cTx 27) ++ txN n fu (kdB q)).length)) ++ arrB Z z4 k4 m4) ++ arrB Z t5 ((((([] : List Nat) ++ txN n fu (kdA q)) ++ cTx 27) ++ txN n fu (kdB q)).length) b5) ++ wPl Z L) (by simp only [List.append_assoc, List.append_nil, List.nil_append]) ?_
          refine J_drop (wTo Z s5 t5) ((wSo Z n17 z4 (nI (((([] : List Nat) ++ txN n fu (kdA q)) ++ cTx 27) ++ txN n fu (kdB q)).length)) ++ arrB Z z4 k4 m4) ((arrB Z t5 ((((([] : List Nat) ++ txN n fu (kdA q)) ++ cTx 27) ++ txN n fu (kdB q)).length) b5) ++ wPl Z L) (by simp only [List.append_assoc, List.append_nil, List.nil_append]) ?_
          refine J_ws ((wTo Z s5 t5 ++ arrB Z t5 ((((([] : List Nat) ++ txN n fu (kdA q)) ++ cTx 27) ++ txN n fu (kdB q)).length) b5) ++ wPl Z L) (by simp only [List.append_assoc, List.append_nil, List.nil_append]) ?_
          refine J_perm ((wTo Z s5 t5 ++ wPl Z L) ++ arrB Z t5 ((((([] : List Nat) ++ txN n fu (kdA q)) ++ cTx 27) ++ txN n fu (kdB q)).length) b5) (sw2 _ _ _) ?_
          refine J_perm ((wPl Z L ++ wTo Z s5 t5) ++ arrB Z t5 ((((([] : List Nat) ++ txN n fu (kdA q)) ++ cTx 27) ++ txN n fu (kdB q)).length) b5) (List.perm_append_comm.append_right _) ?_
          exact J_aret C E iX10_text_413 (Or.inl ⟨_, rfl⟩) (Or.inr ⟨s5, _, _, rfl, rfl, h5⟩)
        · refine J_room (rc2 := (tcN fu) + (13 + 0 * tcN fu)) (rs2 := (tsN fu) + (22959 + 0 * tsN fu)) (by omega) (by omega) ?_
          obtain ⟨j1_, e1_, f1_⟩ := InT.at hxb
          refine J_cVb (As := []) (st := .ref n17 :: []) (rc2 := 13 + 0 * tcN fu) (rs2 := 22959 + 0 * tsN fu) (w0 := wPl Z L) (q0 := j1_) C iX10_text_404 lm_X10_111 yc_X10_text yv_X10_text (ih (q := kdB q) hxb (by simp only [List.length_append] at hl9; omega)) rfl rfl (wPl_at f1_) ((((arrS Z n1 6 (wdA Z) ++ arrS Z n2 6 (wdB Z)) ++ arrS Z n3 5 (wdC Z)) ++ wSo Z n17 y3 (nI ((([] : List Nat) ++ txN n fu (kdA q)) ++ cTx 27).length)) ++ arrB Z y3 c3 b3) [] (by simp only [List.append_assoc, List.append_nil, List.nil_append]) rfl (rmT_le (by omega) (by decide)) (Nat.le_of_ble_eq_true rfl) rfl rfl ?_
          rintro _ _ (⟨j4, hj4, rfl, rfl, e4⟩ | ⟨s4, t4, b4, rfl, rfl, e4⟩)
          · refine J_st (.ref (zsk Z j4) :: .ref n17 :: []) rfl ?_
            refine J_ws (((((arrS Z n1 6 (wdA Z) ++ arrS Z n2 6 (wdB Z)) ++ arrS Z n3 5 (wdC Z)) ++ wSo Z n17 y3 (nI ((([] : List Nat) ++ txN n fu (kdA q)) ++ cTx 27).length)) ++ arrB Z y3 c3 b3) ++ wPl Z L) (by simp only [List.append_assoc, List.append_nil, List.nil_append]) ?_
            refine J_room (rc2 := 1 + (12 + 0 * tcN fu)) (rs2 := 4002 + (18957 + 0 * tsN fu)) (by omega) (by omega) ?_
            refine J_cVb (As := [.ref (zsk Z j4)]) (st := []) (rc2 := 12 + 0 * tcN fu) (rs2 := 18957 + 0 * tsN fu) (w0 := ((wSo Z n17 y3 (nI ((([] : List Nat) ++ txN n fu (kdA q)) ++ cTx 27).length)) ++ arrB Z y3 c3 b3)) (q0 := 0) C iX10_text_407 lm_X10_96 yc_J4_append_15ec4 yv_J4_append_15ec4 (c_J4_append_C (T := ((([] : List Nat) ++ txN n fu (kdA q)) ++ cTx 27)) (i := j4) h3 hj4 (by rw [← e4]; simp only [List.length_append, List.length_nil] at hl9 ⊢; omega)) rfl rfl rfl ((arrS Z n1 6 (wdA Z) ++ arrS Z n2 6 (wdB Z)) ++ arrS Z n3 5 (wdC Z)) (wPl Z L) (by simp only [List.append_assoc, List.append_nil, List.nil_append]) rfl (rmT_m (by decide) (by decide)) (Nat.le_of_ble_eq_true rfl) rfl rfl ?_
            rintro _ _ ⟨rfl, y6, c6, b6, rfl, h6⟩
            refine J_st (.ref n17 :: []) rfl ?_
            refine J_ws (((((arrS Z n1 6 (wdA Z) ++ arrS Z n2 6 (wdB Z)) ++ arrS Z n3 5 (wdC Z)) ++ wSo Z n17 y6 (nI (((([] : List Nat) ++ txN n fu (kdA q)) ++ cTx 27) ++ cTx j4).length)) ++ arrB Z y6 c6 b6) ++ wPl Z L) (by simp only [List.append_assoc, List.append_nil, List.nil_append]) ?_
            rw [← e4]
            exact hk410_4 (y6, c6, b6) (by rw [e4]; exact h6)
          · refine J_st (.ref s4 :: .ref n17 :: []) rfl ?_
            refine J_ws (((((((arrS Z n1 6 (wdA Z) ++ arrS Z n2 6 (wdB Z)) ++ arrS Z n3 5 (wdC Z)) ++ wSo Z n17 y3 (nI ((([] : List Nat) ++ txN n fu (kdA q)) ++ cTx 27).length)) ++ arrB Z y3 c3 b3) ++ wPl Z L) ++ wTo Z s4 t4) ++ arrB Z t4 ((txN n fu (kdB q)).length) b4) (by simp only [List.append_assoc, List.append_nil, List.nil_append]) ?_
            refine J_perm (((((((arrS Z n1 6 (wdA Z) ++ arrS Z n2 6 (wdB Z)) ++ arrS Z n3 5 (wdC Z)) ++ wSo Z n17 y3 (nI ((([] : List Nat) ++ txN n fu (kdA q)) ++ cTx 27).length)) ++ arrB Z y3 c3 b3) ++ wTo Z s4 t4) ++ wPl Z L) ++ arrB Z t4 ((txN n fu (kdB q)).length) b4) ((sw2 _ _ _).append_right _) ?_
            refine J_perm (((((((arrS Z n1 6 (wdA Z) ++ arrS Z n2 6 (wdB Z)) ++ arrS Z n3 5 (wdC Z)) ++ wSo Z n17 y3 (nI ((([] : List Nat) ++ txN n fu (kdA q)) ++ cTx 27).length)) ++ arrB Z y3 c3 b3) ++ wTo Z s4 t4) ++ arrB Z t4 ((txN n fu (kdB q)).length) b4) ++ wPl Z L) (sw2 _ _ _) ?_
            refine J_room (rc2 := 1 + (12 + 0 * tcN fu)) (rs2 := 4002 + (18957 + 0 * tsN fu)) (by omega) (by omega) ?_
            refine J_cVb (As := [.ref s4]) (st := []) (rc2 := 12 + 0 * tcN fu) (rs2 := 18957 + 0 * tsN fu) (w0 := ((((wSo Z n17 y3 (nI ((([] : List Nat) ++ txN n fu (kdA q)) ++ cTx 27).length)) ++ arrB Z y3 c3 b3) ++ wTo Z s4 t4) ++ arrB Z t4 ((txN n fu (kdB q)).length) b4)) (q0 := 0) C iX10_text_407 lm_X10_96 yc_J4_append_15ec4 yv_J4_append_15ec4 (c_J4_append_D (T := ((([] : List Nat) ++ txN n fu (kdA q)) ++ cTx 27)) (S := txN n fu (kdB q)) h3 e4 (by simp only [List.length_append, List.length_nil] at hl9 ⊢; omega)) rfl rfl rfl ((arrS Z n1 6 (wdA Z) ++ arrS Z n2 6 (wdB Z)) ++ arrS Z n3 5 (wdC Z)) (wPl Z L) (by simp only [List.append_assoc, List.append_nil, List.nil_append]) rfl (rmT_m (by decide) (by decide)) (Nat.le_of_ble_eq_true rfl) rfl rfl ?_
            rintro _ _ ⟨rfl, y7, c7, b7, rfl, h7⟩
            refine J_st (.ref n17 :: []) rfl ?_
            refine J_ws (((((((arrS Z n1 6 (wdA Z) ++ arrS Z n2 6 (wdB Z)) ++ arrS Z n3 5 (wdC Z)) ++ wSo Z n17 y7 (nI (((([] : List Nat) ++ txN n fu (kdA q)) ++ cTx 27) ++ txN n fu (kdB q)).length)) ++ arrB Z y7 c7 b7) ++ wTo Z s4 t4) ++ arrB Z t4 ((txN n fu (kdB q)).length) b4) ++ wPl Z L) (by simp only [List.append_assoc, List.append_nil, List.nil_append]) ?_
            refine J_drop ((((arrS Z n1 6 (wdA Z) ++ arrS Z n2 6 (wdB Z)) ++ arrS Z n3 5 (wdC Z)) ++ wSo Z n17 y7 (nI (((([] : List Nat) ++ txN n fu (kdA q)) ++ cTx 27) ++ txN n fu (kdB q)).length)) ++ arrB Z y7 c7 b7) (wTo Z s4 t4 ++ arrB Z t4 ((txN n fu (kdB q)).length) b4) (wPl Z L) (by simp only [List.append_assoc, List.append_nil, List.nil_append]) ?_
            refine J_ws (((((arrS Z n1 6 (wdA Z) ++ arrS Z n2 6 (wdB Z)) ++ arrS Z n3 5 (wdC Z)) ++ wSo Z n17 y7 (nI (((([] : List Nat) ++ txN n fu (kdA q)) ++ cTx 27) ++ txN n fu (kdB q)).length)) ++ arrB Z y7 c7 b7) ++ wPl Z L) (by simp only [List.append_assoc, List.append_nil, List.nil_append]) ?_
            exact hk410_4 (y7, c7, b7) h7
      · refine J_room (rc2 := (tcN fu) + (15 + 1 * tcN fu)) (rs2 := (tsN fu) + (30963 + 1 * tsN fu)) (by omega) (by omega) ?_
        obtain ⟨j2_, e2_, f2_⟩ := InT.at hxa
        refine J_cVb (As := []) (st := .ref n17 :: []) (rc2 := 15 + 1 * tcN fu) (rs2 := 30963 + 1 * tsN fu) (w0 := wPl Z L) (q0 := j2_) C iX10_text_382 lm_X10_111 yc_X10_text yv_X10_text (ih (q := kdA q) hxa (by simp only [List.length_append] at hl9; omega)) rfl rfl (wPl_at f2_) ((((arrS Z n1 6 (wdA Z) ++ arrS Z n2 6 (wdB Z)) ++ arrS Z n3 5 (wdC Z)) ++ wSo Z n17 q1 0) ++ arrB Z q1 16 (fun _ => 0)) [] (by simp only [List.append_assoc, List.append_nil, List.nil_append]) rfl (rmT_le (by omega) (by decide)) (Nat.le_of_ble_eq_true rfl) rfl rfl ?_
        rintro _ _ (⟨j2, hj2, rfl, rfl, e2⟩ | ⟨s2, t2, b2, rfl, rfl, e2⟩)
        · refine J_st (.ref (zsk Z j2) :: .ref n17 :: []) rfl ?_
          refine J_ws (((((arrS Z n1 6 (wdA Z) ++ arrS Z n2 6 (wdB Z)) ++ arrS Z n3 5 (wdC Z)) ++ wSo Z n17 q1 0) ++ arrB Z q1 16 (fun _ => 0)) ++ wPl Z L) (by simp only [List.append_assoc, List.append_nil, List.nil_append]) ?_
          refine J_room (rc2 := 1 + (14 + 1 * tcN fu)) (rs2 := 4002 + (26961 + 1 * tsN fu)) (by omega) (by omega) ?_
          refine J_cVb (As := [.ref (zsk Z j2)]) (st := []) (rc2 := 14 + 1 * tcN fu) (rs2 := 26961 + 1 * tsN fu) (w0 := (wSo Z n17 q1 0 ++ arrB Z q1 16 (fun _ => 0))) (q0 := 0) C iX10_text_385 lm_X10_96 yc_J4_append_15ec4 yv_J4_append_15ec4 (c_J4_append_C (T := ([] : List Nat)) (i := j2) sb_new hj2 (by rw [← e2]; simp only [List.length_append, List.length_nil] at hl9 ⊢; omega)) rfl rfl rfl ((arrS Z n1 6 (wdA Z) ++ arrS Z n2 6 (wdB Z)) ++ arrS Z n3 5 (wdC Z)) (wPl Z L) (by simp only [List.append_assoc, List.append_nil, List.nil_append]) rfl (rmT_m (by decide) (by decide)) (Nat.le_of_ble_eq_true rfl) rfl rfl ?_
          rintro _ _ ⟨rfl, y8, c8, b8, rfl, h8⟩
          refine J_st (.ref n17 :: []) rfl ?_
          refine J_ws (((((arrS Z n1 6 (wdA Z) ++ arrS Z n2 6 (wdB Z)) ++ arrS Z n3 5 (wdC Z)) ++ wSo Z n17 y8 (nI (([] : List Nat) ++ cTx j2).length)) ++ arrB Z y8 c8 b8) ++ wPl Z L) (by simp only [List.append_assoc, List.append_nil, List.nil_append]) ?_
          rw [← e2]
          exact hk388_2 (y8, c8, b8) (by rw [e2]; exact h8)
        · refine J_st (.ref s2 :: .ref n17 :: []) rfl ?_
          refine J_ws (((((((arrS Z n1 6 (wdA Z) ++ arrS Z n2 6 (wdB Z)) ++ arrS Z n3 5 (wdC Z)) ++ wSo Z n17 q1 0) ++ arrB Z q1 16 (fun _ => 0)) ++ wPl Z L) ++ wTo Z s2 t2) ++ arrB Z t2 ((txN n fu (kdA q)).length) b2) (by simp only [List.append_assoc, List.append_nil, List.nil_append]) ?_
          refine J_perm (((((((arrS Z n1 6 (wdA Z) ++ arrS Z n2 6 (wdB Z)) ++ arrS Z n3 5 (wdC Z)) ++ wSo Z n17 q1 0) ++ arrB Z q1 16 (fun _ => 0)) ++ wTo Z s2 t2) ++ wPl Z L) ++ arrB Z t2 ((txN n fu (kdA q)).length) b2) ((sw2 _ _ _).append_right _) ?_
          refine J_perm (((((((arrS Z n1 6 (wdA Z) ++ arrS Z n2 6 (wdB Z)) ++ arrS Z n3 5 (wdC Z)) ++ wSo Z n17 q1 0) ++ arrB Z q1 16 (fun _ => 0)) ++ wTo Z s2 t2) ++ arrB Z t2 ((txN n fu (kdA q)).length) b2) ++ wPl Z L) (sw2 _ _ _) ?_
          refine J_room (rc2 := 1 + (14 + 1 * tcN fu)) (rs2 := 4002 + (26961 + 1 * tsN fu)) (by omega) (by omega) ?_
          refine J_cVb (As := [.ref s2]) (st := []) (rc2 := 14 + 1 * tcN fu) (rs2 := 26961 + 1 * tsN fu) (w0 := (((wSo Z n17 q1 0 ++ arrB Z q1 16 (fun _ => 0)) ++ wTo Z s2 t2) ++ arrB Z t2 ((txN n fu (kdA q)).length) b2)) (q0 := 0) C iX10_text_385 lm_X10_96 yc_J4_append_15ec4 yv_J4_append_15ec4 (c_J4_append_D (T := ([] : List Nat)) (S := txN n fu (kdA q)) sb_new e2 (by simp only [List.length_append, List.length_nil] at hl9 ⊢; omega)) rfl rfl rfl ((arrS Z n1 6 (wdA Z) ++ arrS Z n2 6 (wdB Z)) ++ arrS Z n3 5 (wdC Z)) (wPl Z L) (by simp only [List.append_assoc, List.append_nil, List.nil_append]) rfl (rmT_m (by decide) (by decide)) (Nat.le_of_ble_eq_true rfl) rfl rfl ?_
          rintro _ _ ⟨rfl, y9, c9, b9, rfl, h9⟩
          refine J_st (.ref n17 :: []) rfl ?_
          refine J_ws (((((((arrS Z n1 6 (wdA Z) ++ arrS Z n2 6 (wdB Z)) ++ arrS Z n3 5 (wdC Z)) ++ wSo Z n17 y9 (nI (([] : List Nat) ++ txN n fu (kdA q)).length)) ++ arrB Z y9 c9 b9) ++ wTo Z s2 t2) ++ arrB Z t2 ((txN n fu (kdA q)).length) b2) ++ wPl Z L) (by simp only [List.append_assoc, List.append_nil, List.nil_append]) ?_
          refine J_drop ((((arrS Z n1 6 (wdA Z) ++ arrS Z n2 6 (wdB Z)) ++ arrS Z n3 5 (wdC Z)) ++ wSo Z n17 y9 (nI (([] : List Nat) ++ txN n fu (kdA q)).length)) ++ arrB Z y9 c9 b9) (wTo Z s2 t2 ++ arrB Z t2 ((txN n fu (kdA q)).length) b2) (wPl Z L) (by simp only [List.append_assoc, List.append_nil, List.nil_append]) ?_
          refine J_ws (((((arrS Z n1 6 (wdA Z) ++ arrS Z n2 6 (wdB Z)) ++ arrS Z n3 5 (wdC Z)) ++ wSo Z n17 y9 (nI (([] : List Nat) ++ txN n fu (kdA q)).length)) ++ arrB Z y9 c9 b9) ++ wPl Z L) (by simp only [List.append_assoc, List.append_nil, List.nil_append]) ?_
          exact hk388_2 (y9, c9, b9) h9
    · rw [hk] at hi9 hbA hbB
      obtain ⟨xa, rfl, hxa⟩ := hbA rfl
      obtain ⟨xb, rfl, hxb⟩ := hbB rfl
      have htx : txN n (fu + 1) q = (((([] : List Nat) ++ (txN n fu (kdA q))) ++ cTx 28) ++ (txN n fu (kdB q))) := by rw [txN, tx1, if_neg (by omega), if_neg (by omega), if_neg (by omega), if_neg (by omega), if_neg (by omega), if_neg (by omega), if_neg (by omega), if_neg (by omega), if_neg (by omega), if_neg (by omega), if_neg (by omega), if_neg (by omega), if_neg (by omega), if_neg (by omega), if_neg (by omega), if_neg (by omega), if_pos hk]
      rw [htx] at hl9 ⊢
      refine J_aload_n C iX10_text_102 rfl rfl ?_
      refine J_get (.int 23) ((((arrS Z n1 6 (wdA Z) ++ arrS Z n2 6 (wdB Z)) ++ arrS Z n3 5 (wdC Z))).length + i) C iX10_text_103 gf_X10_7 (mid_at (A := ((arrS Z n1 6 (wdA Z) ++ arrS Z n2 6 (wdB Z)) ++ arrS Z n3 5 (wdC Z))) (M := wPl Z L) (B := []) (by simp only [List.append_assoc, List.append_nil, List.nil_append]) (wPl_at hi9)) rfl ?_
      refine J_ifne 132 C iX10_text_106 rfl (fun h106 => ?_) (fun h106 => absurd h106 (by decide))
      refine J_aload_n C iX10_text_132 rfl rfl ?_
      refine J_get (.int 23) ((((arrS Z n1 6 (wdA Z) ++ arrS Z n2 6 (wdB Z)) ++ arrS Z n3 5 (wdC Z))).length + i) C iX10_text_133 gf_X10_7 (mid_at (A := ((arrS Z n1 6 (wdA Z) ++ arrS Z n2 6 (wdB Z)) ++ arrS Z n3 5 (wdC Z))) (M := wPl Z L) (B := []) (by simp only [List.append_assoc, List.append_nil, List.nil_append]) (wPl_at hi9)) rfl ?_
      refine J_iconst 3 C iX10_text_136 rfl ?_
      refine J_icmpge 147 C iX10_text_137 rfl (fun h137 => ?_) (fun h137 => absurd (by decide) h137)
      refine J_aload_n C iX10_text_147 rfl rfl ?_
      refine J_get (.int 23) ((((arrS Z n1 6 (wdA Z) ++ arrS Z n2 6 (wdB Z)) ++ arrS Z n3 5 (wdC Z))).length + i) C iX10_text_148 gf_X10_7 (mid_at (A := ((arrS Z n1 6 (wdA Z) ++ arrS Z n2 6 (wdB Z)) ++ arrS Z n3 5 (wdC Z))) (M := wPl Z L) (B := []) (by simp only [List.append_assoc, List.append_nil, List.nil_append]) (wPl_at hi9)) rfl ?_
      refine J_bipush 6 C iX10_text_151 rfl ?_
      refine J_icmpge 188 C iX10_text_153 rfl (fun h153 => ?_) (fun h153 => absurd (by decide) h153)
      refine J_aload_n C iX10_text_188 rfl rfl ?_
      refine J_get (.int 23) ((((arrS Z n1 6 (wdA Z) ++ arrS Z n2 6 (wdB Z)) ++ arrS Z n3 5 (wdC Z))).length + i) C iX10_text_189 gf_X10_7 (mid_at (A := ((arrS Z n1 6 (wdA Z) ++ arrS Z n2 6 (wdB Z)) ++ arrS Z n3 5 (wdC Z))) (M := wPl Z L) (B := []) (by simp only [List.append_assoc, List.append_nil, List.nil_append]) (wPl_at hi9)) rfl ?_
      refine J_bipush 6 C iX10_text_192 rfl ?_
      refine J_icmpne 228 C iX10_text_194 rfl (fun h194 => ?_) (fun h194 => absurd h194 (by decide))
      refine J_aload_n C iX10_text_228 rfl rfl ?_
      refine J_get (.int 23) ((((arrS Z n1 6 (wdA Z) ++ arrS Z n2 6 (wdB Z)) ++ arrS Z n3 5 (wdC Z))).length + i) C iX10_text_229 gf_X10_7 (mid_at (A := ((arrS Z n1 6 (wdA Z) ++ arrS Z n2 6 (wdB Z)) ++ arrS Z n3 5 (wdC Z))) (M := wPl Z L) (B := []) (by simp only [List.append_assoc, List.append_nil, List.nil_append]) (wPl_at hi9)) rfl ?_
      refine J_bipush 11 C iX10_text_232 rfl ?_
      refine J_icmpge 300 C iX10_text_234 rfl (fun h234 => ?_) (fun h234 => absurd (by decide) h234)
      refine J_aload_n C iX10_text_300 rfl rfl ?_
      refine J_get (.int 23) ((((arrS Z n1 6 (wdA Z) ++ arrS Z n2 6 (wdB Z)) ++ arrS Z n3 5 (wdC Z))).length + i) C iX10_text_301 gf_X10_7 (mid_at (A := ((arrS Z n1 6 (wdA Z) ++ arrS Z n2 6 (wdB Z)) ++ arrS Z n3 5 (wdC Z))) (M := wPl Z L) (B := []) (by simp only [List.append_assoc, List.append_nil, List.nil_append]) (wPl_at hi9)) rfl ?_
      refine J_bipush 13 C iX10_text_304 rfl ?_
      refine J_icmpge 362 C iX10_text_306 rfl (fun h306 => ?_) (fun h306 => absurd (by decide) h306)
      refine J_aload_n C iX10_text_362 rfl rfl ?_
      refine J_get (.int 23) ((((arrS Z n1 6 (wdA Z) ++ arrS Z n2 6 (wdB Z)) ++ arrS Z n3 5 (wdC Z))).length + i) C iX10_text_363 gf_X10_7 (mid_at (A := ((arrS Z n1 6 (wdA Z) ++ arrS Z n2 6 (wdB Z)) ++ arrS Z n3 5 (wdC Z))) (M := wPl Z L) (B := []) (by simp only [List.append_assoc, List.append_nil, List.nil_append]) (wPl_at hi9)) rfl ?_
      refine J_bipush 25 C iX10_text_366 rfl ?_
      refine J_icmpge 414 C iX10_text_368 rfl (fun h368 => absurd h368 (by decide)) (fun h368 => ?_)
      refine J_room (rc2 := 1 + (16 + 2 * tcN fu)) (rs2 := 4 + (30979 + 2 * tsN fu)) (by omega) (by omega) ?_
      refine J_new (ci := 11) [.null, .int 0, .int 0, .int 0] tyJ4 C iX10_text_371 rfl lay_J4 tyJ4_ok (tsg_in (i := 1410) (by decide +kernel) rfl) (tsg_in (i := 1411) (by decide +kernel) rfl) (tsg_in (i := 45) (by decide +kernel) rfl) df_J4 (fun n18 => ?_)
      refine J_ws ((((arrS Z n1 6 (wdA Z) ++ arrS Z n2 6 (wdB Z)) ++ arrS Z n3 5 (wdC Z)) ++ wPl Z L) ++ wS0 Z n18) rfl ?_
      refine J_perm ((((arrS Z n1 6 (wdA Z) ++ arrS Z n2 6 (wdB Z)) ++ arrS Z n3 5 (wdC Z)) ++ wS0 Z n18) ++ wPl Z L) (sw2 _ _ _) ?_
      refine J_dup C iX10_text_374 rfl ?_
      refine J_room (rc2 := 1 + (15 + 2 * tcN fu)) (rs2 := 16 + (30963 + 2 * tsN fu)) (by omega) (by omega) ?_
      refine J_cIb (As := []) (st := .ref n18 :: []) (rc2 := 15 + 2 * tcN fu) (rs2 := 30963 + 2 * tsN fu) (w0 := (wS0 Z n18)) C iX10_text_375 lm_X10_95 yc_J4_init_da8c8 yi_J4_init_da8c8 c_J4_init_da8c8 ((arrS Z n1 6 (wdA Z) ++ arrS Z n2 6 (wdB Z)) ++ arrS Z n3 5 (wdC Z)) (wPl Z L) (by simp only [List.append_assoc, List.append_nil, List.nil_append]) rfl (rmT_m (by decide) (by decide)) (Nat.le_of_ble_eq_true rfl) rfl rfl ?_
      rintro _ _ ⟨rfl, q1, rfl⟩
      refine J_st (.ref n18 :: []) rfl ?_
      refine J_ws (((((arrS Z n1 6 (wdA Z) ++ arrS Z n2 6 (wdB Z)) ++ arrS Z n3 5 (wdC Z)) ++ wSo Z n18 q1 0) ++ arrB Z q1 16 (fun _ => 0)) ++ wPl Z L) (by simp only [List.append_assoc, List.append_nil, List.nil_append]) ?_
      refine J_aload_n C iX10_text_378 rfl rfl ?_
      refine J_get (.ref xa) ((((((arrS Z n1 6 (wdA Z) ++ arrS Z n2 6 (wdB Z)) ++ arrS Z n3 5 (wdC Z)) ++ wSo Z n18 q1 0) ++ arrB Z q1 16 (fun _ => 0))).length + i) C iX10_text_379 gf_X10_36 (mid_at (A := ((((arrS Z n1 6 (wdA Z) ++ arrS Z n2 6 (wdB Z)) ++ arrS Z n3 5 (wdC Z)) ++ wSo Z n18 q1 0) ++ arrB Z q1 16 (fun _ => 0))) (M := wPl Z L) (B := []) (by simp only [List.append_assoc, List.append_nil, List.nil_append]) (wPl_at hi9)) rfl ?_
      refine J_alt (ι := Nat × Nat × (Nat → Int32)) (P := fun i9 => SbT (([] : List Nat) ++ txN n fu (kdA q)) i9.2.1 i9.2.2) (14 + 1 * tcN fu) (26961 + 1 * tsN fu) 388 (fun _ => [(3, .ref n3), (2, .ref n2), (1, .ref n1), (0, .ref a)]) (fun _ => .ref n18 :: []) (fun i9 => (((((arrS Z n1 6 (wdA Z) ++ arrS Z n2 6 (wdB Z)) ++ arrS Z n3 5 (wdC Z)) ++ wSo Z n18 i9.1 (nI (([] : List Nat) ++ txN n fu (kdA q)).length)) ++ arrB Z i9.1 i9.2.1 i9.2.2) ++ wPl Z L)) (fun i9 hi9_ => ?_) (fun hk388_2 => ?_)
      · obtain ⟨z2, k2, m2⟩ := i9
        have g2 : SbT (([] : List Nat) ++ txN n fu (kdA q)) k2 m2 := hi9_
        refine J_ws (((((arrS Z n1 6 (wdA Z) ++ arrS Z n2 6 (wdB Z)) ++ arrS Z n3 5 (wdC Z)) ++ wSo Z n18 z2 (nI (([] : List Nat) ++ txN n fu (kdA q)).length)) ++ arrB Z z2 k2 m2) ++ wPl Z L) rfl ?_
        refine J_aload_n C iX10_text_388 rfl rfl ?_
        refine J_aload_n C iX10_text_389 rfl rfl ?_
        refine J_get (.int 23) ((((((arrS Z n1 6 (wdA Z) ++ arrS Z n2 6 (wdB Z)) ++ arrS Z n3 5 (wdC Z)) ++ wSo Z n18 z2 (nI (([] : List Nat) ++ txN n fu (kdA q)).length)) ++ arrB Z z2 k2 m2)).length + i) C iX10_text_390 gf_X10_7 (mid_at (A := ((((arrS Z n1 6 (wdA Z) ++ arrS Z n2 6 (wdB Z)) ++ arrS Z n3 5 (wdC Z)) ++ wSo Z n18 z2 (nI (([] : List Nat) ++ txN n fu (kdA q)).length)) ++ arrB Z z2 k2 m2)) (M := wPl Z L) (B := []) (by simp only [List.append_assoc, List.append_nil, List.nil_append]) (wPl_at hi9)) rfl ?_
        refine J_bipush 20 C iX10_text_393 rfl ?_
        refine J_isub C iX10_text_395 ?_
        rw [show (23 - 20 : Int32) = 3 from rfl]
        refine J_aaldS 2 C iX10_text_396 rfl (vp_in_nI (n := 3) (by decide) (by decide)) ?_
        rw [show Int32.toNatClampNeg 3 = 3 from rfl]
        refine J_st (.ref (zsk Z 28) :: .ref n18 :: []) rfl ?_
        refine J_room (rc2 := 1 + (13 + 1 * tcN fu)) (rs2 := 4002 + (22959 + 1 * tsN fu)) (by omega) (by omega) ?_
        refine J_cVb (As := [.ref (zsk Z 28)]) (st := []) (rc2 := 13 + 1 * tcN fu) (rs2 := 22959 + 1 * tsN fu) (w0 := ((wSo Z n18 z2 (nI (([] : List Nat) ++ txN n fu (kdA q)).length)) ++ arrB Z z2 k2 m2)) (q0 := 0) C iX10_text_397 lm_X10_96 yc_J4_append_15ec4 yv_J4_append_15ec4 (c_J4_append_C (T := (([] : List Nat) ++ txN n fu (kdA q))) (i := 28) g2 (by decide) (by simp only [List.length_append, List.length_nil] at hl9 ⊢; omega)) rfl rfl rfl ((arrS Z n1 6 (wdA Z) ++ arrS Z n2 6 (wdB Z)) ++ arrS Z n3 5 (wdC Z)) (wPl Z L) (by simp only [List.append_assoc, List.append_nil, List.nil_append]) rfl (rmT_m (by decide) (by decide)) (Nat.le_of_ble_eq_true rfl) rfl rfl ?_
        rintro _ _ ⟨rfl, y3, c3, b3, rfl, h3⟩
        refine J_st (.ref n18 :: []) rfl ?_
        refine J_ws (((((arrS Z n1 6 (wdA Z) ++ arrS Z n2 6 (wdB Z)) ++ arrS Z n3 5 (wdC Z)) ++ wSo Z n18 y3 (nI ((([] : List Nat) ++ txN n fu (kdA q)) ++ cTx 28).length)) ++ arrB Z y3 c3 b3) ++ wPl Z L) (by simp only [List.append_assoc, List.append_nil, List.nil_append]) ?_
        refine J_aload_n C iX10_text_400 rfl rfl ?_
        refine J_get (.ref xb) ((((((arrS Z n1 6 (wdA Z) ++ arrS Z n2 6 (wdB Z)) ++ arrS Z n3 5 (wdC Z)) ++ wSo Z n18 y3 (nI ((([] : List Nat) ++ txN n fu (kdA q)) ++ cTx 28).length)) ++ arrB Z y3 c3 b3)).length + i) C iX10_text_401 gf_X10_51 (mid_at (A := ((((arrS Z n1 6 (wdA Z) ++ arrS Z n2 6 (wdB Z)) ++ arrS Z n3 5 (wdC Z)) ++ wSo Z n18 y3 (nI ((([] : List Nat) ++ txN n fu (kdA q)) ++ cTx 28).length)) ++ arrB Z y3 c3 b3)) (M := wPl Z L) (B := []) (by simp only [List.append_assoc, List.append_nil, List.nil_append]) (wPl_at hi9)) rfl ?_
        refine J_alt (ι := Nat × Nat × (Nat → Int32)) (P := fun i9 => SbT (((([] : List Nat) ++ txN n fu (kdA q)) ++ cTx 28) ++ txN n fu (kdB q)) i9.2.1 i9.2.2) (12 + 0 * tcN fu) (18957 + 0 * tsN fu) 410 (fun _ => [(3, .ref n3), (2, .ref n2), (1, .ref n1), (0, .ref a)]) (fun _ => .ref n18 :: []) (fun i9 => (((((arrS Z n1 6 (wdA Z) ++ arrS Z n2 6 (wdB Z)) ++ arrS Z n3 5 (wdC Z)) ++ wSo Z n18 i9.1 (nI (((([] : List Nat) ++ txN n fu (kdA q)) ++ cTx 28) ++ txN n fu (kdB q)).length)) ++ arrB Z i9.1 i9.2.1 i9.2.2) ++ wPl Z L)) (fun i9 hi9_ => ?_) (fun hk410_4 => ?_)
        · obtain ⟨z4, k4, m4⟩ := i9
          have g4 : SbT (((([] : List Nat) ++ txN n fu (kdA q)) ++ cTx 28) ++ txN n fu (kdB q)) k4 m4 := hi9_
          refine J_ws (((((arrS Z n1 6 (wdA Z) ++ arrS Z n2 6 (wdB Z)) ++ arrS Z n3 5 (wdC Z)) ++ wSo Z n18 z4 (nI (((([] : List Nat) ++ txN n fu (kdA q)) ++ cTx 28) ++ txN n fu (kdB q)).length)) ++ arrB Z z4 k4 m4) ++ wPl Z L) rfl ?_
          refine J_room (rc2 := 2 + (10 + 0 * tcN fu)) (rs2 := 2004 + (16953 + 0 * tsN fu)) (by omega) (by omega) ?_
          refine J_cVb (As := []) (st := []) (rc2 := 10 + 0 * tcN fu) (rs2 := 16953 + 0 * tsN fu) (w0 := ((wSo Z n18 z4 (nI (((([] : List Nat) ++ txN n fu (kdA q)) ++ cTx 28) ++ txN n fu (kdB q)).length)) ++ arrB Z z4 k4 m4)) (q0 := 0) C iX10_text_410 lm_X10_103 yc_J4_toString_0e30d yv_J4_toString_0e30d (c_J4_toString_0e30d (T := (((([] : List Nat) ++ txN n fu (kdA q)) ++ cTx 28) ++ txN n fu (kdB q))) g4 (by simp only [List.length_append, List.length_nil] at hl9 ⊢; omega)) rfl rfl rfl ((arrS Z n1 6 (wdA Z) ++ arrS Z n2 6 (wdB Z)) ++ arrS Z n3 5 (wdC Z)) (wPl Z L) (by simp only [List.append_assoc, List.append_nil, List.nil_append]) rfl (rmT_m (by decide) (by decide)) (Nat.le_of_ble_eq_true rfl) rfl rfl ?_
          rintro _ _ ⟨s5, t5, b5, rfl, rfl, h5⟩
          refine J_st (.ref s5 :: []) rfl ?_
          refine J_ws (((((((arrS Z n1 6 (wdA Z) ++ arrS Z n2 6 (wdB Z)) ++ arrS Z n3 5 (wdC Z)) ++ wTo Z s5 t5) ++ wSo Z n18 z4 (nI (((([] : List Nat) ++ txN n fu (kdA q)) ++ cTx 28) ++ txN n fu (kdB q)).length)) ++ arrB Z z4 k4 m4) ++ arrB Z t5 ((((([] : List Nat) ++ txN n fu (kdA q)) ++ cTx 28) ++ txN n fu (kdB q)).length) b5) ++ wPl Z L) (by simp only [List.append_assoc, List.append_nil, List.nil_append]) ?_
          refine J_drop [] ((arrS Z n1 6 (wdA Z) ++ arrS Z n2 6 (wdB Z)) ++ arrS Z n3 5 (wdC Z)) ((((wTo Z s5 t5 ++ wSo Z n18 z4 (nI (((([] : List Nat) ++ txN n fu (kdA q)) ++ cTx 28) ++ txN n fu (kdB q)).length)) ++ arrB Z z4 k4 m4) ++ arrB Z t5 ((((([] : List Nat) ++ txN n fu (kdA q)) ++ cTx 28) ++ txN n fu (kdB q)).length) b5) ++ wPl Z L) (by simp only [List.append_assoc, List.append_nil, List.nil_append]) ?_
          refine J_ws ((((wTo Z s5 t5 ++ wSo Z n18 z4 (nI (((([] : List Nat) ++ txN n fu (kdA q)) ++ cTx 28) ++ txN n fu (kdB q)).length)) ++ arrB Z z4 k4 m4) ++ arrB Z t5 ((((([] : List Nat) ++ txN n fu (kdA q)) ++ cTx 28) ++ txN n fu (kdB q)).length) b5) ++ wPl Z L) (by simp only [List.append_assoc, List.append_nil, List.nil_append]) ?_
          refine J_drop (wTo Z s5 t5) ((wSo Z n18 z4 (nI (((([] : List Nat) ++ txN n fu (kdA q)) ++ cTx 28) ++ txN n fu (kdB q)).length)) ++ arrB Z z4 k4 m4) ((arrB Z t5 ((((([] : List Nat) ++ txN n fu (kdA q)) ++ cTx 28) ++ txN n fu (kdB q)).length) b5) ++ wPl Z L) (by simp only [List.append_assoc, List.append_nil, List.nil_append]) ?_
          refine J_ws ((wTo Z s5 t5 ++ arrB Z t5 ((((([] : List Nat) ++ txN n fu (kdA q)) ++ cTx 28) ++ txN n fu (kdB q)).length) b5) ++ wPl Z L) (by simp only [List.append_assoc, List.append_nil, List.nil_append]) ?_
          refine J_perm ((wTo Z s5 t5 ++ wPl Z L) ++ arrB Z t5 ((((([] : List Nat) ++ txN n fu (kdA q)) ++ cTx 28) ++ txN n fu (kdB q)).length) b5) (sw2 _ _ _) ?_
          refine J_perm ((wPl Z L ++ wTo Z s5 t5) ++ arrB Z t5 ((((([] : List Nat) ++ txN n fu (kdA q)) ++ cTx 28) ++ txN n fu (kdB q)).length) b5) (List.perm_append_comm.append_right _) ?_
          exact J_aret C E iX10_text_413 (Or.inl ⟨_, rfl⟩) (Or.inr ⟨s5, _, _, rfl, rfl, h5⟩)
        · refine J_room (rc2 := (tcN fu) + (13 + 0 * tcN fu)) (rs2 := (tsN fu) + (22959 + 0 * tsN fu)) (by omega) (by omega) ?_
          obtain ⟨j1_, e1_, f1_⟩ := InT.at hxb
          refine J_cVb (As := []) (st := .ref n18 :: []) (rc2 := 13 + 0 * tcN fu) (rs2 := 22959 + 0 * tsN fu) (w0 := wPl Z L) (q0 := j1_) C iX10_text_404 lm_X10_111 yc_X10_text yv_X10_text (ih (q := kdB q) hxb (by simp only [List.length_append] at hl9; omega)) rfl rfl (wPl_at f1_) ((((arrS Z n1 6 (wdA Z) ++ arrS Z n2 6 (wdB Z)) ++ arrS Z n3 5 (wdC Z)) ++ wSo Z n18 y3 (nI ((([] : List Nat) ++ txN n fu (kdA q)) ++ cTx 28).length)) ++ arrB Z y3 c3 b3) [] (by simp only [List.append_assoc, List.append_nil, List.nil_append]) rfl (rmT_le (by omega) (by decide)) (Nat.le_of_ble_eq_true rfl) rfl rfl ?_
          rintro _ _ (⟨j4, hj4, rfl, rfl, e4⟩ | ⟨s4, t4, b4, rfl, rfl, e4⟩)
          · refine J_st (.ref (zsk Z j4) :: .ref n18 :: []) rfl ?_
            refine J_ws (((((arrS Z n1 6 (wdA Z) ++ arrS Z n2 6 (wdB Z)) ++ arrS Z n3 5 (wdC Z)) ++ wSo Z n18 y3 (nI ((([] : List Nat) ++ txN n fu (kdA q)) ++ cTx 28).length)) ++ arrB Z y3 c3 b3) ++ wPl Z L) (by simp only [List.append_assoc, List.append_nil, List.nil_append]) ?_
            refine J_room (rc2 := 1 + (12 + 0 * tcN fu)) (rs2 := 4002 + (18957 + 0 * tsN fu)) (by omega) (by omega) ?_
            refine J_cVb (As := [.ref (zsk Z j4)]) (st := []) (rc2 := 12 + 0 * tcN fu) (rs2 := 18957 + 0 * tsN fu) (w0 := ((wSo Z n18 y3 (nI ((([] : List Nat) ++ txN n fu (kdA q)) ++ cTx 28).length)) ++ arrB Z y3 c3 b3)) (q0 := 0) C iX10_text_407 lm_X10_96 yc_J4_append_15ec4 yv_J4_append_15ec4 (c_J4_append_C (T := ((([] : List Nat) ++ txN n fu (kdA q)) ++ cTx 28)) (i := j4) h3 hj4 (by rw [← e4]; simp only [List.length_append, List.length_nil] at hl9 ⊢; omega)) rfl rfl rfl ((arrS Z n1 6 (wdA Z) ++ arrS Z n2 6 (wdB Z)) ++ arrS Z n3 5 (wdC Z)) (wPl Z L) (by simp only [List.append_assoc, List.append_nil, List.nil_append]) rfl (rmT_m (by decide) (by decide)) (Nat.le_of_ble_eq_true rfl) rfl rfl ?_
            rintro _ _ ⟨rfl, y6, c6, b6, rfl, h6⟩
            refine J_st (.ref n18 :: []) rfl ?_
            refine J_ws (((((arrS Z n1 6 (wdA Z) ++ arrS Z n2 6 (wdB Z)) ++ arrS Z n3 5 (wdC Z)) ++ wSo Z n18 y6 (nI (((([] : List Nat) ++ txN n fu (kdA q)) ++ cTx 28) ++ cTx j4).length)) ++ arrB Z y6 c6 b6) ++ wPl Z L) (by simp only [List.append_assoc, List.append_nil, List.nil_append]) ?_
            rw [← e4]
            exact hk410_4 (y6, c6, b6) (by rw [e4]; exact h6)
          · refine J_st (.ref s4 :: .ref n18 :: []) rfl ?_
            refine J_ws (((((((arrS Z n1 6 (wdA Z) ++ arrS Z n2 6 (wdB Z)) ++ arrS Z n3 5 (wdC Z)) ++ wSo Z n18 y3 (nI ((([] : List Nat) ++ txN n fu (kdA q)) ++ cTx 28).length)) ++ arrB Z y3 c3 b3) ++ wPl Z L) ++ wTo Z s4 t4) ++ arrB Z t4 ((txN n fu (kdB q)).length) b4) (by simp only [List.append_assoc, List.append_nil, List.nil_append]) ?_
            refine J_perm (((((((arrS Z n1 6 (wdA Z) ++ arrS Z n2 6 (wdB Z)) ++ arrS Z n3 5 (wdC Z)) ++ wSo Z n18 y3 (nI ((([] : List Nat) ++ txN n fu (kdA q)) ++ cTx 28).length)) ++ arrB Z y3 c3 b3) ++ wTo Z s4 t4) ++ wPl Z L) ++ arrB Z t4 ((txN n fu (kdB q)).length) b4) ((sw2 _ _ _).append_right _) ?_
            refine J_perm (((((((arrS Z n1 6 (wdA Z) ++ arrS Z n2 6 (wdB Z)) ++ arrS Z n3 5 (wdC Z)) ++ wSo Z n18 y3 (nI ((([] : List Nat) ++ txN n fu (kdA q)) ++ cTx 28).length)) ++ arrB Z y3 c3 b3) ++ wTo Z s4 t4) ++ arrB Z t4 ((txN n fu (kdB q)).length) b4) ++ wPl Z L) (sw2 _ _ _) ?_
            refine J_room (rc2 := 1 + (12 + 0 * tcN fu)) (rs2 := 4002 + (18957 + 0 * tsN fu)) (by omega) (by omega) ?_
            refine J_cVb (As := [.ref s4]) (st := []) (rc2 := 12 + 0 * tcN fu) (rs2 := 18957 + 0 * tsN fu) (w0 := ((((wSo Z n18 y3 (nI ((([] : List Nat) ++ txN n fu (kdA q)) ++ cTx 28).length)) ++ arrB Z y3 c3 b3) ++ wTo Z s4 t4) ++ arrB Z t4 ((txN n fu (kdB q)).length) b4)) (q0 := 0) C iX10_text_407 lm_X10_96 yc_J4_append_15ec4 yv_J4_append_15ec4 (c_J4_append_D (T := ((([] : List Nat) ++ txN n fu (kdA q)) ++ cTx 28)) (S := txN n fu (kdB q)) h3 e4 (by simp only [List.length_append, List.length_nil] at hl9 ⊢; omega)) rfl rfl rfl ((arrS Z n1 6 (wdA Z) ++ arrS Z n2 6 (wdB Z)) ++ arrS Z n3 5 (wdC Z)) (wPl Z L) (by simp only [List.append_assoc, List.append_nil, List.nil_append]) rfl (rmT_m (by decide) (by decide)) (Nat.le_of_ble_eq_true rfl) rfl rfl ?_
            rintro _ _ ⟨rfl, y7, c7, b7, rfl, h7⟩
            refine J_st (.ref n18 :: []) rfl ?_
            refine J_ws (((((((arrS Z n1 6 (wdA Z) ++ arrS Z n2 6 (wdB Z)) ++ arrS Z n3 5 (wdC Z)) ++ wSo Z n18 y7 (nI (((([] : List Nat) ++ txN n fu (kdA q)) ++ cTx 28) ++ txN n fu (kdB q)).length)) ++ arrB Z y7 c7 b7) ++ wTo Z s4 t4) ++ arrB Z t4 ((txN n fu (kdB q)).length) b4) ++ wPl Z L) (by simp only [List.append_assoc, List.append_nil, List.nil_append]) ?_
            refine J_drop ((((arrS Z n1 6 (wdA Z) ++ arrS Z n2 6 (wdB Z)) ++ arrS Z n3 5 (wdC Z)) ++ wSo Z n18 y7 (nI (((([] : List Nat) ++ txN n fu (kdA q)) ++ cTx 28) ++ txN n fu (kdB q)).length)) ++ arrB Z y7 c7 b7) (wTo Z s4 t4 ++ arrB Z t4 ((txN n fu (kdB q)).length) b4) (wPl Z L) (by simp only [List.append_assoc, List.append_nil, List.nil_append]) ?_
            refine J_ws (((((arrS Z n1 6 (wdA Z) ++ arrS Z n2 6 (wdB Z)) ++ arrS Z n3 5 (wdC Z)) ++ wSo Z n18 y7 (nI (((([] : List Nat) ++ txN n fu (kdA q)) ++ cTx 28) ++ txN n fu (kdB q)).length)) ++ arrB Z y7 c7 b7) ++ wPl Z L) (by simp only [List.append_assoc, List.append_nil, List.nil_append]) ?_
            exact hk410_4 (y7, c7, b7) h7
      · refine J_room (rc2 := (tcN fu) + (15 + 1 * tcN fu)) (rs2 := (tsN fu) + (30963 + 1 * tsN fu)) (by omega) (by omega) ?_
        obtain ⟨j2_, e2_, f2_⟩ := InT.at hxa
        refine J_cVb (As := []) (st := .ref n18 :: []) (rc2 := 15 + 1 * tcN fu) (rs2 := 30963 + 1 * tsN fu) (w0 := wPl Z L) (q0 := j2_) C iX10_text_382 lm_X10_111 yc_X10_text yv_X10_text (ih (q := kdA q) hxa (by simp only [List.length_append] at hl9; omega)) rfl rfl (wPl_at f2_) ((((arrS Z n1 6 (wdA Z) ++ arrS Z n2 6 (wdB Z)) ++ arrS Z n3 5 (wdC Z)) ++ wSo Z n18 q1 0) ++ arrB Z q1 16 (fun _ => 0)) [] (by simp only [List.append_assoc, List.append_nil, List.nil_append]) rfl (rmT_le (by omega) (by decide)) (Nat.le_of_ble_eq_true rfl) rfl rfl ?_
        rintro _ _ (⟨j2, hj2, rfl, rfl, e2⟩ | ⟨s2, t2, b2, rfl, rfl, e2⟩)
        · refine J_st (.ref (zsk Z j2) :: .ref n18 :: []) rfl ?_
          refine J_ws (((((arrS Z n1 6 (wdA Z) ++ arrS Z n2 6 (wdB Z)) ++ arrS Z n3 5 (wdC Z)) ++ wSo Z n18 q1 0) ++ arrB Z q1 16 (fun _ => 0)) ++ wPl Z L) (by simp only [List.append_assoc, List.append_nil, List.nil_append]) ?_
          refine J_room (rc2 := 1 + (14 + 1 * tcN fu)) (rs2 := 4002 + (26961 + 1 * tsN fu)) (by omega) (by omega) ?_
          refine J_cVb (As := [.ref (zsk Z j2)]) (st := []) (rc2 := 14 + 1 * tcN fu) (rs2 := 26961 + 1 * tsN fu) (w0 := (wSo Z n18 q1 0 ++ arrB Z q1 16 (fun _ => 0))) (q0 := 0) C iX10_text_385 lm_X10_96 yc_J4_append_15ec4 yv_J4_append_15ec4 (c_J4_append_C (T := ([] : List Nat)) (i := j2) sb_new hj2 (by rw [← e2]; simp only [List.length_append, List.length_nil] at hl9 ⊢; omega)) rfl rfl rfl ((arrS Z n1 6 (wdA Z) ++ arrS Z n2 6 (wdB Z)) ++ arrS Z n3 5 (wdC Z)) (wPl Z L) (by simp only [List.append_assoc, List.append_nil, List.nil_append]) rfl (rmT_m (by decide) (by decide)) (Nat.le_of_ble_eq_true rfl) rfl rfl ?_
          rintro _ _ ⟨rfl, y8, c8, b8, rfl, h8⟩
          refine J_st (.ref n18 :: []) rfl ?_
          refine J_ws (((((arrS Z n1 6 (wdA Z) ++ arrS Z n2 6 (wdB Z)) ++ arrS Z n3 5 (wdC Z)) ++ wSo Z n18 y8 (nI (([] : List Nat) ++ cTx j2).length)) ++ arrB Z y8 c8 b8) ++ wPl Z L) (by simp only [List.append_assoc, List.append_nil, List.nil_append]) ?_
          rw [← e2]
          exact hk388_2 (y8, c8, b8) (by rw [e2]; exact h8)
        · refine J_st (.ref s2 :: .ref n18 :: []) rfl ?_
          refine J_ws (((((((arrS Z n1 6 (wdA Z) ++ arrS Z n2 6 (wdB Z)) ++ arrS Z n3 5 (wdC Z)) ++ wSo Z n18 q1 0) ++ arrB Z q1 16 (fun _ => 0)) ++ wPl Z L) ++ wTo Z s2 t2) ++ arrB Z t2 ((txN n fu (kdA q)).length) b2) (by simp only [List.append_assoc, List.append_nil, List.nil_append]) ?_
          refine J_perm (((((((arrS Z n1 6 (wdA Z) ++ arrS Z n2 6 (wdB Z)) ++ arrS Z n3 5 (wdC Z)) ++ wSo Z n18 q1 0) ++ arrB Z q1 16 (fun _ => 0)) ++ wTo Z s2 t2) ++ wPl Z L) ++ arrB Z t2 ((txN n fu (kdA q)).length) b2) ((sw2 _ _ _).append_right _) ?_
          refine J_perm (((((((arrS Z n1 6 (wdA Z) ++ arrS Z n2 6 (wdB Z)) ++ arrS Z n3 5 (wdC Z)) ++ wSo Z n18 q1 0) ++ arrB Z q1 16 (fun _ => 0)) ++ wTo Z s2 t2) ++ arrB Z t2 ((txN n fu (kdA q)).length) b2) ++ wPl Z L) (sw2 _ _ _) ?_
          refine J_room (rc2 := 1 + (14 + 1 * tcN fu)) (rs2 := 4002 + (26961 + 1 * tsN fu)) (by omega) (by omega) ?_
          refine J_cVb (As := [.ref s2]) (st := []) (rc2 := 14 + 1 * tcN fu) (rs2 := 26961 + 1 * tsN fu) (w0 := (((wSo Z n18 q1 0 ++ arrB Z q1 16 (fun _ => 0)) ++ wTo Z s2 t2) ++ arrB Z t2 ((txN n fu (kdA q)).length) b2)) (q0 := 0) C iX10_text_385 lm_X10_96 yc_J4_append_15ec4 yv_J4_append_15ec4 (c_J4_append_D (T := ([] : List Nat)) (S := txN n fu (kdA q)) sb_new e2 (by simp only [List.length_append, List.length_nil] at hl9 ⊢; omega)) rfl rfl rfl ((arrS Z n1 6 (wdA Z) ++ arrS Z n2 6 (wdB Z)) ++ arrS Z n3 5 (wdC Z)) (wPl Z L) (by simp only [List.append_assoc, List.append_nil, List.nil_append]) rfl (rmT_m (by decide) (by decide)) (Nat.le_of_ble_eq_true rfl) rfl rfl ?_
          rintro _ _ ⟨rfl, y9, c9, b9, rfl, h9⟩
          refine J_st (.ref n18 :: []) rfl ?_
          refine J_ws (((((((arrS Z n1 6 (wdA Z) ++ arrS Z n2 6 (wdB Z)) ++ arrS Z n3 5 (wdC Z)) ++ wSo Z n18 y9 (nI (([] : List Nat) ++ txN n fu (kdA q)).length)) ++ arrB Z y9 c9 b9) ++ wTo Z s2 t2) ++ arrB Z t2 ((txN n fu (kdA q)).length) b2) ++ wPl Z L) (by simp only [List.append_assoc, List.append_nil, List.nil_append]) ?_
          refine J_drop ((((arrS Z n1 6 (wdA Z) ++ arrS Z n2 6 (wdB Z)) ++ arrS Z n3 5 (wdC Z)) ++ wSo Z n18 y9 (nI (([] : List Nat) ++ txN n fu (kdA q)).length)) ++ arrB Z y9 c9 b9) (wTo Z s2 t2 ++ arrB Z t2 ((txN n fu (kdA q)).length) b2) (wPl Z L) (by simp only [List.append_assoc, List.append_nil, List.nil_append]) ?_
          refine J_ws (((((arrS Z n1 6 (wdA Z) ++ arrS Z n2 6 (wdB Z)) ++ arrS Z n3 5 (wdC Z)) ++ wSo Z n18 y9 (nI (([] : List Nat) ++ txN n fu (kdA q)).length)) ++ arrB Z y9 c9 b9) ++ wPl Z L) (by simp only [List.append_assoc, List.append_nil, List.nil_append]) ?_
          exact hk388_2 (y9, c9, b9) h9
    · rw [hk] at hi9 hbA hbB
      obtain ⟨xa, rfl, hxa⟩ := hbA rfl
      obtain ⟨xb, rfl, hxb⟩ := hbB rfl
      have htx : txN n (fu + 1) q = (((([] : List Nat) ++ (txN n fu (kdA q))) ++ cTx 29) ++ (txN n fu (kdB q))) := by rw [txN, tx1, if_neg (by omega), if_neg (by omega), if_neg (by omega), if_neg (by omega), if_neg (by omega), if_neg (by omega), if_neg (by omega), if_neg (by omega), if_neg (by omega), if_neg (by omega), if_neg (by omega), if_neg (by omega), if_neg (by omega), if_neg (by omega), if_neg (by omega), if_neg (by omega), if_neg (by omega), if_pos hk]
      rw [htx] at hl9 ⊢
      refine J_aload_n C iX10_text_102 rfl rfl ?_
      refine J_get (.int 24) ((((arrS Z n1 6 (wdA Z) ++ arrS Z n2 6 (wdB Z)) ++ arrS Z n3 5 (wdC Z))).length + i) C iX10_text_103 gf_X10_7 (mid_at (A := ((arrS Z n1 6 (wdA Z) ++ arrS Z n2 6 (wdB Z)) ++ arrS Z n3 5 (wdC Z))) (M := wPl Z L) (B := []) (by simp only [List.append_assoc, List.append_nil, List.nil_append]) (wPl_at hi9)) rfl ?_
      refine J_ifne 132 C iX10_text_106 rfl (fun h106 => ?_) (fun h106 => absurd h106 (by decide))
      refine J_aload_n C iX10_text_132 rfl rfl ?_
      refine J_get (.int 24) ((((arrS Z n1 6 (wdA Z) ++ arrS Z n2 6 (wdB Z)) ++ arrS Z n3 5 (wdC Z))).length + i) C iX10_text_133 gf_X10_7 (mid_at (A := ((arrS Z n1 6 (wdA Z) ++ arrS Z n2 6 (wdB Z)) ++ arrS Z n3 5 (wdC Z))) (M := wPl Z L) (B := []) (by simp only [List.append_assoc, List.append_nil, List.nil_append]) (wPl_at hi9)) rfl ?_
      refine J_iconst 3 C iX10_text_136 rfl ?_
      refine J_icmpge 147 C iX10_text_137 rfl (fun h137 => ?_) (fun h137 => absurd (by decide) h137)
      refine J_aload_n C iX10_text_147 rfl rfl ?_
      refine J_get (.int 24) ((((arrS Z n1 6 (wdA Z) ++ arrS Z n2 6 (wdB Z)) ++ arrS Z n3 5 (wdC Z))).length + i) C iX10_text_148 gf_X10_7 (mid_at (A := ((arrS Z n1 6 (wdA Z) ++ arrS Z n2 6 (wdB Z)) ++ arrS Z n3 5 (wdC Z))) (M := wPl Z L) (B := []) (by simp only [List.append_assoc, List.append_nil, List.nil_append]) (wPl_at hi9)) rfl ?_
      refine J_bipush 6 C iX10_text_151 rfl ?_
      refine J_icmpge 188 C iX10_text_153 rfl (fun h153 => ?_) (fun h153 => absurd (by decide) h153)
      refine J_aload_n C iX10_text_188 rfl rfl ?_
      refine J_get (.int 24) ((((arrS Z n1 6 (wdA Z) ++ arrS Z n2 6 (wdB Z)) ++ arrS Z n3 5 (wdC Z))).length + i) C iX10_text_189 gf_X10_7 (mid_at (A := ((arrS Z n1 6 (wdA Z) ++ arrS Z n2 6 (wdB Z)) ++ arrS Z n3 5 (wdC Z))) (M := wPl Z L) (B := []) (by simp only [List.append_assoc, List.append_nil, List.nil_append]) (wPl_at hi9)) rfl ?_
      refine J_bipush 6 C iX10_text_192 rfl ?_
      refine J_icmpne 228 C iX10_text_194 rfl (fun h194 => ?_) (fun h194 => absurd h194 (by decide))
      refine J_aload_n C iX10_text_228 rfl rfl ?_
      refine J_get (.int 24) ((((arrS Z n1 6 (wdA Z) ++ arrS Z n2 6 (wdB Z)) ++ arrS Z n3 5 (wdC Z))).length + i) C iX10_text_229 gf_X10_7 (mid_at (A := ((arrS Z n1 6 (wdA Z) ++ arrS Z n2 6 (wdB Z)) ++ arrS Z n3 5 (wdC Z))) (M := wPl Z L) (B := []) (by simp only [List.append_assoc, List.append_nil, List.nil_append]) (wPl_at hi9)) rfl ?_
      refine J_bipush 11 C iX10_text_232 rfl ?_
      refine J_icmpge 300 C iX10_text_234 rfl (fun h234 => ?_) (fun h234 => absurd (by decide) h234)
      refine J_aload_n C iX10_text_300 rfl rfl ?_
      refine J_get (.int 24) ((((arrS Z n1 6 (wdA Z) ++ arrS Z n2 6 (wdB Z)) ++ arrS Z n3 5 (wdC Z))).length + i) C iX10_text_301 gf_X10_7 (mid_at (A := ((arrS Z n1 6 (wdA Z) ++ arrS Z n2 6 (wdB Z)) ++ arrS Z n3 5 (wdC Z))) (M := wPl Z L) (B := []) (by simp only [List.append_assoc, List.append_nil, List.nil_append]) (wPl_at hi9)) rfl ?_
      refine J_bipush 13 C iX10_text_304 rfl ?_
      refine J_icmpge 362 C iX10_text_306 rfl (fun h306 => ?_) (fun h306 => absurd (by decide) h306)
      refine J_aload_n C iX10_text_362 rfl rfl ?_
      refine J_get (.int 24) ((((arrS Z n1 6 (wdA Z) ++ arrS Z n2 6 (wdB Z)) ++ arrS Z n3 5 (wdC Z))).length + i) C iX10_text_363 gf_X10_7 (mid_at (A := ((arrS Z n1 6 (wdA Z) ++ arrS Z n2 6 (wdB Z)) ++ arrS Z n3 5 (wdC Z))) (M := wPl Z L) (B := []) (by simp only [List.append_assoc, List.append_nil, List.nil_append]) (wPl_at hi9)) rfl ?_
      refine J_bipush 25 C iX10_text_366 rfl ?_
      refine J_icmpge 414 C iX10_text_368 rfl (fun h368 => absurd h368 (by decide)) (fun h368 => ?_)
      refine J_room (rc2 := 1 + (16 + 2 * tcN fu)) (rs2 := 4 + (30979 + 2 * tsN fu)) (by omega) (by omega) ?_
      refine J_new (ci := 11) [.null, .int 0, .int 0, .int 0] tyJ4 C iX10_text_371 rfl lay_J4 tyJ4_ok (tsg_in (i := 1410) (by decide +kernel) rfl) (tsg_in (i := 1411) (by decide +kernel) rfl) (tsg_in (i := 45) (by decide +kernel) rfl) df_J4 (fun n19 => ?_)
      refine J_ws ((((arrS Z n1 6 (wdA Z) ++ arrS Z n2 6 (wdB Z)) ++ arrS Z n3 5 (wdC Z)) ++ wPl Z L) ++ wS0 Z n19) rfl ?_
      refine J_perm ((((arrS Z n1 6 (wdA Z) ++ arrS Z n2 6 (wdB Z)) ++ arrS Z n3 5 (wdC Z)) ++ wS0 Z n19) ++ wPl Z L) (sw2 _ _ _) ?_
      refine J_dup C iX10_text_374 rfl ?_
      refine J_room (rc2 := 1 + (15 + 2 * tcN fu)) (rs2 := 16 + (30963 + 2 * tsN fu)) (by omega) (by omega) ?_
      refine J_cIb (As := []) (st := .ref n19 :: []) (rc2 := 15 + 2 * tcN fu) (rs2 := 30963 + 2 * tsN fu) (w0 := (wS0 Z n19)) C iX10_text_375 lm_X10_95 yc_J4_init_da8c8 yi_J4_init_da8c8 c_J4_init_da8c8 ((arrS Z n1 6 (wdA Z) ++ arrS Z n2 6 (wdB Z)) ++ arrS Z n3 5 (wdC Z)) (wPl Z L) (by simp only [List.append_assoc, List.append_nil, List.nil_append]) rfl (rmT_m (by decide) (by decide)) (Nat.le_of_ble_eq_true rfl) rfl rfl ?_
      rintro _ _ ⟨rfl, q1, rfl⟩
      refine J_st (.ref n19 :: []) rfl ?_
      refine J_ws (((((arrS Z n1 6 (wdA Z) ++ arrS Z n2 6 (wdB Z)) ++ arrS Z n3 5 (wdC Z)) ++ wSo Z n19 q1 0) ++ arrB Z q1 16 (fun _ => 0)) ++ wPl Z L) (by simp only [List.append_assoc, List.append_nil, List.nil_append]) ?_
      refine J_aload_n C iX10_text_378 rfl rfl ?_
      refine J_get (.ref xa) ((((((arrS Z n1 6 (wdA Z) ++ arrS Z n2 6 (wdB Z)) ++ arrS Z n3 5 (wdC Z)) ++ wSo Z n19 q1 0) ++ arrB Z q1 16 (fun _ => 0))).length + i) C iX10_text_379 gf_X10_36 (mid_at (A := ((((arrS Z n1 6 (wdA Z) ++ arrS Z n2 6 (wdB Z)) ++ arrS Z n3 5 (wdC Z)) ++ wSo Z n19 q1 0) ++ arrB Z q1 16 (fun _ => 0))) (M := wPl Z L) (B := []) (by simp only [List.append_assoc, List.append_nil, List.nil_append]) (wPl_at hi9)) rfl ?_
      refine J_alt (ι := Nat × Nat × (Nat → Int32)) (P := fun i9 => SbT (([] : List Nat) ++ txN n fu (kdA q)) i9.2.1 i9.2.2) (14 + 1 * tcN fu) (26961 + 1 * tsN fu) 388 (fun _ => [(3, .ref n3), (2, .ref n2), (1, .ref n1), (0, .ref a)]) (fun _ => .ref n19 :: []) (fun i9 => (((((arrS Z n1 6 (wdA Z) ++ arrS Z n2 6 (wdB Z)) ++ arrS Z n3 5 (wdC Z)) ++ wSo Z n19 i9.1 (nI (([] : List Nat) ++ txN n fu (kdA q)).length)) ++ arrB Z i9.1 i9.2.1 i9.2.2) ++ wPl Z L)) (fun i9 hi9_ => ?_) (fun hk388_2 => ?_)
      · obtain ⟨z2, k2, m2⟩ := i9
        have g2 : SbT (([] : List Nat) ++ txN n fu (kdA q)) k2 m2 := hi9_
        refine J_ws (((((arrS Z n1 6 (wdA Z) ++ arrS Z n2 6 (wdB Z)) ++ arrS Z n3 5 (wdC Z)) ++ wSo Z n19 z2 (nI (([] : List Nat) ++ txN n fu (kdA q)).length)) ++ arrB Z z2 k2 m2) ++ wPl Z L) rfl ?_
        refine J_aload_n C iX10_text_388 rfl rfl ?_
        refine J_aload_n C iX10_text_389 rfl rfl ?_
        refine J_get (.int 24) ((((((arrS Z n1 6 (wdA Z) ++ arrS Z n2 6 (wdB Z)) ++ arrS Z n3 5 (wdC Z)) ++ wSo Z n19 z2 (nI (([] : List Nat) ++ txN n fu (kdA q)).length)) ++ arrB Z z2 k2 m2)).length + i) C iX10_text_390 gf_X10_7 (mid_at (A := ((((arrS Z n1 6 (wdA Z) ++ arrS Z n2 6 (wdB Z)) ++ arrS Z n3 5 (wdC Z)) ++ wSo Z n19 z2 (nI (([] : List Nat) ++ txN n fu (kdA q)).length)) ++ arrB Z z2 k2 m2)) (M := wPl Z L) (B := []) (by simp only [List.append_assoc, List.append_nil, List.nil_append]) (wPl_at hi9)) rfl ?_
        refine J_bipush 20 C iX10_text_393 rfl ?_
        refine J_isub C iX10_text_395 ?_
        rw [show (24 - 20 : Int32) = 4 from rfl]
        refine J_aaldS 2 C iX10_text_396 rfl (vp_in_nI (n := 4) (by decide) (by decide)) ?_
        rw [show Int32.toNatClampNeg 4 = 4 from rfl]
        refine J_st (.ref (zsk Z 29) :: .ref n19 :: []) rfl ?_
        refine J_room (rc2 := 1 + (13 + 1 * tcN fu)) (rs2 := 4002 + (22959 + 1 * tsN fu)) (by omega) (by omega) ?_
        refine J_cVb (As := [.ref (zsk Z 29)]) (st := []) (rc2 := 13 + 1 * tcN fu) (rs2 := 22959 + 1 * tsN fu) (w0 := ((wSo Z n19 z2 (nI (([] : List Nat) ++ txN n fu (kdA q)).length)) ++ arrB Z z2 k2 m2)) (q0 := 0) C iX10_text_397 lm_X10_96 yc_J4_append_15ec4 yv_J4_append_15ec4 (c_J4_append_C (T := (([] : List Nat) ++ txN n fu (kdA q))) (i := 29) g2 (by decide) (by simp only [List.length_append, List.length_nil] at hl9 ⊢; omega)) rfl rfl rfl ((arrS Z n1 6 (wdA Z) ++ arrS Z n2 6 (wdB Z)) ++ arrS Z n3 5 (wdC Z)) (wPl Z L) (by simp only [List.append_assoc, List.append_nil, List.nil_append]) rfl (rmT_m (by decide) (by decide)) (Nat.le_of_ble_eq_true rfl) rfl rfl ?_
        rintro _ _ ⟨rfl, y3, c3, b3, rfl, h3⟩
        refine J_st (.ref n19 :: []) rfl ?_
        refine J_ws (((((arrS Z n1 6 (wdA Z) ++ arrS Z n2 6 (wdB Z)) ++ arrS Z n3 5 (wdC Z)) ++ wSo Z n19 y3 (nI ((([] : List Nat) ++ txN n fu (kdA q)) ++ cTx 29).length)) ++ arrB Z y3 c3 b3) ++ wPl Z L) (by simp only [List.append_assoc, List.append_nil, List.nil_append]) ?_
        refine J_aload_n C iX10_text_400 rfl rfl ?_
        refine J_get (.ref xb) ((((((arrS Z n1 6 (wdA Z) ++ arrS Z n2 6 (wdB Z)) ++ arrS Z n3 5 (wdC Z)) ++ wSo Z n19 y3 (nI ((([] : List Nat) ++ txN n fu (kdA q)) ++ cTx 29).length)) ++ arrB Z y3 c3 b3)).length + i) C iX10_text_401 gf_X10_51 (mid_at (A := ((((arrS Z n1 6 (wdA Z) ++ arrS Z n2 6 (wdB Z)) ++ arrS Z n3 5 (wdC Z)) ++ wSo Z n19 y3 (nI ((([] : List Nat) ++ txN n fu (kdA q)) ++ cTx 29).length)) ++ arrB Z y3 c3 b3)) (M := wPl Z L) (B := []) (by simp only [List.append_assoc, List.append_nil, List.nil_append]) (wPl_at hi9)) rfl ?_
        refine J_alt (ι := Nat × Nat × (Nat → Int32)) (P := fun i9 => SbT (((([] : List Nat) ++ txN n fu (kdA q)) ++ cTx 29) ++ txN n fu (kdB q)) i9.2.1 i9.2.2) (12 + 0 * tcN fu) (18957 + 0 * tsN fu) 410 (fun _ => [(3, .ref n3), (2, .ref n2), (1, .ref n1), (0, .ref a)]) (fun _ => .ref n19 :: []) (fun i9 => (((((arrS Z n1 6 (wdA Z) ++ arrS Z n2 6 (wdB Z)) ++ arrS Z n3 5 (wdC Z)) ++ wSo Z n19 i9.1 (nI (((([] : List Nat) ++ txN n fu (kdA q)) ++ cTx 29) ++ txN n fu (kdB q)).length)) ++ arrB Z i9.1 i9.2.1 i9.2.2) ++ wPl Z L)) (fun i9 hi9_ => ?_) (fun hk410_4 => ?_)
        · obtain ⟨z4, k4, m4⟩ := i9
          have g4 : SbT (((([] : List Nat) ++ txN n fu (kdA q)) ++ cTx 29) ++ txN n fu (kdB q)) k4 m4 := hi9_
          refine J_ws (((((arrS Z n1 6 (wdA Z) ++ arrS Z n2 6 (wdB Z)) ++ arrS Z n3 5 (wdC Z)) ++ wSo Z n19 z4 (nI (((([] : List Nat) ++ txN n fu (kdA q)) ++ cTx 29) ++ txN n fu (kdB q)).length)) ++ arrB Z z4 k4 m4) ++ wPl Z L) rfl ?_
          refine J_room (rc2 := 2 + (10 + 0 * tcN fu)) (rs2 := 2004 + (16953 + 0 * tsN fu)) (by omega) (by omega) ?_
          refine J_cVb (As := []) (st := []) (rc2 := 10 + 0 * tcN fu) (rs2 := 16953 + 0 * tsN fu) (w0 := ((wSo Z n19 z4 (nI (((([] : List Nat) ++ txN n fu (kdA q)) ++ cTx 29) ++ txN n fu (kdB q)).length)) ++ arrB Z z4 k4 m4)) (q0 := 0) C iX10_text_410 lm_X10_103 yc_J4_toString_0e30d yv_J4_toString_0e30d (c_J4_toString_0e30d (T := (((([] : List Nat) ++ txN n fu (kdA q)) ++ cTx 29) ++ txN n fu (kdB q))) g4 (by simp only [List.length_append, List.length_nil] at hl9 ⊢; omega)) rfl rfl rfl ((arrS Z n1 6 (wdA Z) ++ arrS Z n2 6 (wdB Z)) ++ arrS Z n3 5 (wdC Z)) (wPl Z L) (by simp only [List.append_assoc, List.append_nil, List.nil_append]) rfl (rmT_m (by decide) (by decide)) (Nat.le_of_ble_eq_true rfl) rfl rfl ?_
          rintro _ _ ⟨s5, t5, b5, rfl, rfl, h5⟩
          refine J_st (.ref s5 :: []) rfl ?_
          refine J_ws (((((((arrS Z n1 6 (wdA Z) ++ arrS Z n2 6 (wdB Z)) ++ arrS Z n3 5 (wdC Z)) ++ wTo Z s5 t5) ++ wSo Z n19 z4 (nI (((([] : List Nat) ++ txN n fu (kdA q)) ++ cTx 29) ++ txN n fu (kdB q)).length)) ++ arrB Z z4 k4 m4) ++ arrB Z t5 ((((([] : List Nat) ++ txN n fu (kdA q)) ++ cTx 29) ++ txN n fu (kdB q)).length) b5) ++ wPl Z L) (by simp only [List.append_assoc, List.append_nil, List.nil_append]) ?_
          refine J_drop [] ((arrS Z n1 6 (wdA Z) ++ arrS Z n2 6 (wdB Z)) ++ arrS Z n3 5 (wdC Z)) ((((wTo Z s5 t5 ++ wSo Z n19 z4 (nI (((([] : List Nat) ++ txN n fu (kdA q)) ++ cTx 29) ++ txN n fu (kdB q)).length)) ++ arrB Z z4 k4 m4) ++ arrB Z t5 ((((([] : List Nat) ++ txN n fu (kdA q)) ++ cTx 29) ++ txN n fu (kdB q)).length) b5) ++ wPl Z L) (by simp only [List.append_assoc, List.append_nil, List.nil_append]) ?_
          refine J_ws ((((wTo Z s5 t5 ++ wSo Z n19 z4 (nI (((([] : List Nat) ++ txN n fu (kdA q)) ++ cTx 29) ++ txN n fu (kdB q)).length)) ++ arrB Z z4 k4 m4) ++ arrB Z t5 ((((([] : List Nat) ++ txN n fu (kdA q)) ++ cTx 29) ++ txN n fu (kdB q)).length) b5) ++ wPl Z L) (by simp only [List.append_assoc, List.append_nil, List.nil_append]) ?_
          refine J_drop (wTo Z s5 t5) ((wSo Z n19 z4 (nI (((([] : List Nat) ++ txN n fu (kdA q)) ++ cTx 29) ++ txN n fu (kdB q)).length)) ++ arrB Z z4 k4 m4) ((arrB Z t5 ((((([] : List Nat) ++ txN n fu (kdA q)) ++ cTx 29) ++ txN n fu (kdB q)).length) b5) ++ wPl Z L) (by simp only [List.append_assoc, List.append_nil, List.nil_append]) ?_
          refine J_ws ((wTo Z s5 t5 ++ arrB Z t5 ((((([] : List Nat) ++ txN n fu (kdA q)) ++ cTx 29) ++ txN n fu (kdB q)).length) b5) ++ wPl Z L) (by simp only [List.append_assoc, List.append_nil, List.nil_append]) ?_
          refine J_perm ((wTo Z s5 t5 ++ wPl Z L) ++ arrB Z t5 ((((([] : List Nat) ++ txN n fu (kdA q)) ++ cTx 29) ++ txN n fu (kdB q)).length) b5) (sw2 _ _ _) ?_
          refine J_perm ((wPl Z L ++ wTo Z s5 t5) ++ arrB Z t5 ((((([] : List Nat) ++ txN n fu (kdA q)) ++ cTx 29) ++ txN n fu (kdB q)).length) b5) (List.perm_append_comm.append_right _) ?_
          exact J_aret C E iX10_text_413 (Or.inl ⟨_, rfl⟩) (Or.inr ⟨s5, _, _, rfl, rfl, h5⟩)
        · refine J_room (rc2 := (tcN fu) + (13 + 0 * tcN fu)) (rs2 := (tsN fu) + (22959 + 0 * tsN fu)) (by omega) (by omega) ?_
          obtain ⟨j1_, e1_, f1_⟩ := InT.at hxb
          refine J_cVb (As := []) (st := .ref n19 :: []) (rc2 := 13 + 0 * tcN fu) (rs2 := 22959 + 0 * tsN fu) (w0 := wPl Z L) (q0 := j1_) C iX10_text_404 lm_X10_111 yc_X10_text yv_X10_text (ih (q := kdB q) hxb (by simp only [List.length_append] at hl9; omega)) rfl rfl (wPl_at f1_) ((((arrS Z n1 6 (wdA Z) ++ arrS Z n2 6 (wdB Z)) ++ arrS Z n3 5 (wdC Z)) ++ wSo Z n19 y3 (nI ((([] : List Nat) ++ txN n fu (kdA q)) ++ cTx 29).length)) ++ arrB Z y3 c3 b3) [] (by simp only [List.append_assoc, List.append_nil, List.nil_append]) rfl (rmT_le (by omega) (by decide)) (Nat.le_of_ble_eq_true rfl) rfl rfl ?_
          rintro _ _ (⟨j4, hj4, rfl, rfl, e4⟩ | ⟨s4, t4, b4, rfl, rfl, e4⟩)
          · refine J_st (.ref (zsk Z j4) :: .ref n19 :: []) rfl ?_
            refine J_ws (((((arrS Z n1 6 (wdA Z) ++ arrS Z n2 6 (wdB Z)) ++ arrS Z n3 5 (wdC Z)) ++ wSo Z n19 y3 (nI ((([] : List Nat) ++ txN n fu (kdA q)) ++ cTx 29).length)) ++ arrB Z y3 c3 b3) ++ wPl Z L) (by simp only [List.append_assoc, List.append_nil, List.nil_append]) ?_
            refine J_room (rc2 := 1 + (12 + 0 * tcN fu)) (rs2 := 4002 + (18957 + 0 * tsN fu)) (by omega) (by omega) ?_
            refine J_cVb (As := [.ref (zsk Z j4)]) (st := []) (rc2 := 12 + 0 * tcN fu) (rs2 := 18957 + 0 * tsN fu) (w0 := ((wSo Z n19 y3 (nI ((([] : List Nat) ++ txN n fu (kdA q)) ++ cTx 29).length)) ++ arrB Z y3 c3 b3)) (q0 := 0) C iX10_text_407 lm_X10_96 yc_J4_append_15ec4 yv_J4_append_15ec4 (c_J4_append_C (T := ((([] : List Nat) ++ txN n fu (kdA q)) ++ cTx 29)) (i := j4) h3 hj4 (by rw [← e4]; simp only [List.length_append, List.length_nil] at hl9 ⊢; omega)) rfl rfl rfl ((arrS Z n1 6 (wdA Z) ++ arrS Z n2 6 (wdB Z)) ++ arrS Z n3 5 (wdC Z)) (wPl Z L) (by simp only [List.append_assoc, List.append_nil, List.nil_append]) rfl (rmT_m (by decide) (by decide)) (Nat.le_of_ble_eq_true rfl) rfl rfl ?_
            rintro _ _ ⟨rfl, y6, c6, b6, rfl, h6⟩
            refine J_st (.ref n19 :: []) rfl ?_
            refine J_ws (((((arrS Z n1 6 (wdA Z) ++ arrS Z n2 6 (wdB Z)) ++ arrS Z n3 5 (wdC Z)) ++ wSo Z n19 y6 (nI (((([] : List Nat) ++ txN n fu (kdA q)) ++ cTx 29) ++ cTx j4).length)) ++ arrB Z y6 c6 b6) ++ wPl Z L) (by simp only [List.append_assoc, List.append_nil, List.nil_append]) ?_
            rw [← e4]
            exact hk410_4 (y6, c6, b6) (by rw [e4]; exact h6)
          · refine J_st (.ref s4 :: .ref n19 :: []) rfl ?_
            refine J_ws (((((((arrS Z n1 6 (wdA Z) ++ arrS Z n2 6 (wdB Z)) ++ arrS Z n3 5 (wdC Z)) ++ wSo Z n19 y3 (nI ((([] : List Nat) ++ txN n fu (kdA q)) ++ cTx 29).length)) ++ arrB Z y3 c3 b3) ++ wPl Z L) ++ wTo Z s4 t4) ++ arrB Z t4 ((txN n fu (kdB q)).length) b4) (by simp only [List.append_assoc, List.append_nil, List.nil_append]) ?_
            refine J_perm (((((((arrS Z n1 6 (wdA Z) ++ arrS Z n2 6 (wdB Z)) ++ arrS Z n3 5 (wdC Z)) ++ wSo Z n19 y3 (nI ((([] : List Nat) ++ txN n fu (kdA q)) ++ cTx 29).length)) ++ arrB Z y3 c3 b3) ++ wTo Z s4 t4) ++ wPl Z L) ++ arrB Z t4 ((txN n fu (kdB q)).length) b4) ((sw2 _ _ _).append_right _) ?_
            refine J_perm (((((((arrS Z n1 6 (wdA Z) ++ arrS Z n2 6 (wdB Z)) ++ arrS Z n3 5 (wdC Z)) ++ wSo Z n19 y3 (nI ((([] : List Nat) ++ txN n fu (kdA q)) ++ cTx 29).length)) ++ arrB Z y3 c3 b3) ++ wTo Z s4 t4) ++ arrB Z t4 ((txN n fu (kdB q)).length) b4) ++ wPl Z L) (sw2 _ _ _) ?_
            refine J_room (rc2 := 1 + (12 + 0 * tcN fu)) (rs2 := 4002 + (18957 + 0 * tsN fu)) (by omega) (by omega) ?_
            refine J_cVb (As := [.ref s4]) (st := []) (rc2 := 12 + 0 * tcN fu) (rs2 := 18957 + 0 * tsN fu) (w0 := ((((wSo Z n19 y3 (nI ((([] : List Nat) ++ txN n fu (kdA q)) ++ cTx 29).length)) ++ arrB Z y3 c3 b3) ++ wTo Z s4 t4) ++ arrB Z t4 ((txN n fu (kdB q)).length) b4)) (q0 := 0) C iX10_text_407 lm_X10_96 yc_J4_append_15ec4 yv_J4_append_15ec4 (c_J4_append_D (T := ((([] : List Nat) ++ txN n fu (kdA q)) ++ cTx 29)) (S := txN n fu (kdB q)) h3 e4 (by simp only [List.length_append, List.length_nil] at hl9 ⊢; omega)) rfl rfl rfl ((arrS Z n1 6 (wdA Z) ++ arrS Z n2 6 (wdB Z)) ++ arrS Z n3 5 (wdC Z)) (wPl Z L) (by simp only [List.append_assoc, List.append_nil, List.nil_append]) rfl (rmT_m (by decide) (by decide)) (Nat.le_of_ble_eq_true rfl) rfl rfl ?_
            rintro _ _ ⟨rfl, y7, c7, b7, rfl, h7⟩
            refine J_st (.ref n19 :: []) rfl ?_
            refine J_ws (((((((arrS Z n1 6 (wdA Z) ++ arrS Z n2 6 (wdB Z)) ++ arrS Z n3 5 (wdC Z)) ++ wSo Z n19 y7 (nI (((([] : List Nat) ++ txN n fu (kdA q)) ++ cTx 29) ++ txN n fu (kdB q)).length)) ++ arrB Z y7 c7 b7) ++ wTo Z s4 t4) ++ arrB Z t4 ((txN n fu (kdB q)).length) b4) ++ wPl Z L) (by simp only [List.append_assoc, List.append_nil, List.nil_append]) ?_
            refine J_drop ((((arrS Z n1 6 (wdA Z) ++ arrS Z n2 6 (wdB Z)) ++ arrS Z n3 5 (wdC Z)) ++ wSo Z n19 y7 (nI (((([] : List Nat) ++ txN n fu (kdA q)) ++ cTx 29) ++ txN n fu (kdB q)).length)) ++ arrB Z y7 c7 b7) (wTo Z s4 t4 ++ arrB Z t4 ((txN n fu (kdB q)).length) b4) (wPl Z L) (by simp only [List.append_assoc, List.append_nil, List.nil_append]) ?_
            refine J_ws (((((arrS Z n1 6 (wdA Z) ++ arrS Z n2 6 (wdB Z)) ++ arrS Z n3 5 (wdC Z)) ++ wSo Z n19 y7 (nI (((([] : List Nat) ++ txN n fu (kdA q)) ++ cTx 29) ++ txN n fu (kdB q)).length)) ++ arrB Z y7 c7 b7) ++ wPl Z L) (by simp only [List.append_assoc, List.append_nil, List.nil_append]) ?_
            exact hk410_4 (y7, c7, b7) h7
      · refine J_room (rc2 := (tcN fu) + (15 + 1 * tcN fu)) (rs2 := (tsN fu) + (30963 + 1 * tsN fu)) (by omega) (by omega) ?_
        obtain ⟨j2_, e2_, f2_⟩ := InT.at hxa
        refine J_cVb (As := []) (st := .ref n19 :: []) (rc2 := 15 + 1 * tcN fu) (rs2 := 30963 + 1 * tsN fu) (w0 := wPl Z L) (q0 := j2_) C iX10_text_382 lm_X10_111 yc_X10_text yv_X10_text (ih (q := kdA q) hxa (by simp only [List.length_append] at hl9; omega)) rfl rfl (wPl_at f2_) ((((arrS Z n1 6 (wdA Z) ++ arrS Z n2 6 (wdB Z)) ++ arrS Z n3 5 (wdC Z)) ++ wSo Z n19 q1 0) ++ arrB Z q1 16 (fun _ => 0)) [] (by simp only [List.append_assoc, List.append_nil, List.nil_append]) rfl (rmT_le (by omega) (by decide)) (Nat.le_of_ble_eq_true rfl) rfl rfl ?_
        rintro _ _ (⟨j2, hj2, rfl, rfl, e2⟩ | ⟨s2, t2, b2, rfl, rfl, e2⟩)
        · refine J_st (.ref (zsk Z j2) :: .ref n19 :: []) rfl ?_
          refine J_ws (((((arrS Z n1 6 (wdA Z) ++ arrS Z n2 6 (wdB Z)) ++ arrS Z n3 5 (wdC Z)) ++ wSo Z n19 q1 0) ++ arrB Z q1 16 (fun _ => 0)) ++ wPl Z L) (by simp only [List.append_assoc, List.append_nil, List.nil_append]) ?_
          refine J_room (rc2 := 1 + (14 + 1 * tcN fu)) (rs2 := 4002 + (26961 + 1 * tsN fu)) (by omega) (by omega) ?_
          refine J_cVb (As := [.ref (zsk Z j2)]) (st := []) (rc2 := 14 + 1 * tcN fu) (rs2 := 26961 + 1 * tsN fu) (w0 := (wSo Z n19 q1 0 ++ arrB Z q1 16 (fun _ => 0))) (q0 := 0) C iX10_text_385 lm_X10_96 yc_J4_append_15ec4 yv_J4_append_15ec4 (c_J4_append_C (T := ([] : List Nat)) (i := j2) sb_new hj2 (by rw [← e2]; simp only [List.length_append, List.length_nil] at hl9 ⊢; omega)) rfl rfl rfl ((arrS Z n1 6 (wdA Z) ++ arrS Z n2 6 (wdB Z)) ++ arrS Z n3 5 (wdC Z)) (wPl Z L) (by simp only [List.append_assoc, List.append_nil, List.nil_append]) rfl (rmT_m (by decide) (by decide)) (Nat.le_of_ble_eq_true rfl) rfl rfl ?_
          rintro _ _ ⟨rfl, y8, c8, b8, rfl, h8⟩
          refine J_st (.ref n19 :: []) rfl ?_
          refine J_ws (((((arrS Z n1 6 (wdA Z) ++ arrS Z n2 6 (wdB Z)) ++ arrS Z n3 5 (wdC Z)) ++ wSo Z n19 y8 (nI (([] : List Nat) ++ cTx j2).length)) ++ arrB Z y8 c8 b8) ++ wPl Z L) (by simp only [List.append_assoc, List.append_nil, List.nil_append]) ?_
          rw [← e2]
          exact hk388_2 (y8, c8, b8) (by rw [e2]; exact h8)
        · refine J_st (.ref s2 :: .ref n19 :: []) rfl ?_
          refine J_ws (((((((arrS Z n1 6 (wdA Z) ++ arrS Z n2 6 (wdB Z)) ++ arrS Z n3 5 (wdC Z)) ++ wSo Z n19 q1 0) ++ arrB Z q1 16 (fun _ => 0)) ++ wPl Z L) ++ wTo Z s2 t2) ++ arrB Z t2 ((txN n fu (kdA q)).length) b2) (by simp only [List.append_assoc, List.append_nil, List.nil_append]) ?_
          refine J_perm (((((((arrS Z n1 6 (wdA Z) ++ arrS Z n2 6 (wdB Z)) ++ arrS Z n3 5 (wdC Z)) ++ wSo Z n19 q1 0) ++ arrB Z q1 16 (fun _ => 0)) ++ wTo Z s2 t2) ++ wPl Z L) ++ arrB Z t2 ((txN n fu (kdA q)).length) b2) ((sw2 _ _ _).append_right _) ?_
          refine J_perm (((((((arrS Z n1 6 (wdA Z) ++ arrS Z n2 6 (wdB Z)) ++ arrS Z n3 5 (wdC Z)) ++ wSo Z n19 q1 0) ++ arrB Z q1 16 (fun _ => 0)) ++ wTo Z s2 t2) ++ arrB Z t2 ((txN n fu (kdA q)).length) b2) ++ wPl Z L) (sw2 _ _ _) ?_
          refine J_room (rc2 := 1 + (14 + 1 * tcN fu)) (rs2 := 4002 + (26961 + 1 * tsN fu)) (by omega) (by omega) ?_
          refine J_cVb (As := [.ref s2]) (st := []) (rc2 := 14 + 1 * tcN fu) (rs2 := 26961 + 1 * tsN fu) (w0 := (((wSo Z n19 q1 0 ++ arrB Z q1 16 (fun _ => 0)) ++ wTo Z s2 t2) ++ arrB Z t2 ((txN n fu (kdA q)).length) b2)) (q0 := 0) C iX10_text_385 lm_X10_96 yc_J4_append_15ec4 yv_J4_append_15ec4 (c_J4_append_D (T := ([] : List Nat)) (S := txN n fu (kdA q)) sb_new e2 (by simp only [List.length_append, List.length_nil] at hl9 ⊢; omega)) rfl rfl rfl ((arrS Z n1 6 (wdA Z) ++ arrS Z n2 6 (wdB Z)) ++ arrS Z n3 5 (wdC Z)) (wPl Z L) (by simp only [List.append_assoc, List.append_nil, List.nil_append]) rfl (rmT_m (by decide) (by decide)) (Nat.le_of_ble_eq_true rfl) rfl rfl ?_
          rintro _ _ ⟨rfl, y9, c9, b9, rfl, h9⟩
          refine J_st (.ref n19 :: []) rfl ?_
          refine J_ws (((((((arrS Z n1 6 (wdA Z) ++ arrS Z n2 6 (wdB Z)) ++ arrS Z n3 5 (wdC Z)) ++ wSo Z n19 y9 (nI (([] : List Nat) ++ txN n fu (kdA q)).length)) ++ arrB Z y9 c9 b9) ++ wTo Z s2 t2) ++ arrB Z t2 ((txN n fu (kdA q)).length) b2) ++ wPl Z L) (by simp only [List.append_assoc, List.append_nil, List.nil_append]) ?_
          refine J_drop ((((arrS Z n1 6 (wdA Z) ++ arrS Z n2 6 (wdB Z)) ++ arrS Z n3 5 (wdC Z)) ++ wSo Z n19 y9 (nI (([] : List Nat) ++ txN n fu (kdA q)).length)) ++ arrB Z y9 c9 b9) (wTo Z s2 t2 ++ arrB Z t2 ((txN n fu (kdA q)).length) b2) (wPl Z L) (by simp only [List.append_assoc, List.append_nil, List.nil_append]) ?_
          refine J_ws (((((arrS Z n1 6 (wdA Z) ++ arrS Z n2 6 (wdB Z)) ++ arrS Z n3 5 (wdC Z)) ++ wSo Z n19 y9 (nI (([] : List Nat) ++ txN n fu (kdA q)).length)) ++ arrB Z y9 c9 b9) ++ wPl Z L) (by simp only [List.append_assoc, List.append_nil, List.nil_append]) ?_
          exact hk388_2 (y9, c9, b9) h9
    · rw [hk] at hi9 hbA hbB
      have htx : txN n (fu + 1) q = (((((([] : List Nat) ++ cTx 35) ++ dTx (nuQ n q)) ++ cTx 36) ++ dTx (otN n q)) ++ cTx 30) := by rw [txN, tx1, if_neg (by omega), if_neg (by omega), if_neg (by omega), if_neg (by omega), if_neg (by omega), if_neg (by omega), if_neg (by omega), if_neg (by omega), if_neg (by omega), if_neg (by omega), if_neg (by omega), if_neg (by omega), if_neg (by omega), if_neg (by omega), if_neg (by omega), if_neg (by omega), if_neg (by omega), if_neg (by omega), if_pos hk]
      rw [htx] at hl9 ⊢
      refine J_aload_n C iX10_text_102 rfl rfl ?_
      refine J_get (.int 25) ((((arrS Z n1 6 (wdA Z) ++ arrS Z n2 6 (wdB Z)) ++ arrS Z n3 5 (wdC Z))).length + i) C iX10_text_103 gf_X10_7 (mid_at (A := ((arrS Z n1 6 (wdA Z) ++ arrS Z n2 6 (wdB Z)) ++ arrS Z n3 5 (wdC Z))) (M := wPl Z L) (B := []) (by simp only [List.append_assoc, List.append_nil, List.nil_append]) (wPl_at hi9)) rfl ?_
      refine J_ifne 132 C iX10_text_106 rfl (fun h106 => ?_) (fun h106 => absurd h106 (by decide))
      refine J_aload_n C iX10_text_132 rfl rfl ?_
      refine J_get (.int 25) ((((arrS Z n1 6 (wdA Z) ++ arrS Z n2 6 (wdB Z)) ++ arrS Z n3 5 (wdC Z))).length + i) C iX10_text_133 gf_X10_7 (mid_at (A := ((arrS Z n1 6 (wdA Z) ++ arrS Z n2 6 (wdB Z)) ++ arrS Z n3 5 (wdC Z))) (M := wPl Z L) (B := []) (by simp only [List.append_assoc, List.append_nil, List.nil_append]) (wPl_at hi9)) rfl ?_
      refine J_iconst 3 C iX10_text_136 rfl ?_
      refine J_icmpge 147 C iX10_text_137 rfl (fun h137 => ?_) (fun h137 => absurd (by decide) h137)
      refine J_aload_n C iX10_text_147 rfl rfl ?_
      refine J_get (.int 25) ((((arrS Z n1 6 (wdA Z) ++ arrS Z n2 6 (wdB Z)) ++ arrS Z n3 5 (wdC Z))).length + i) C iX10_text_148 gf_X10_7 (mid_at (A := ((arrS Z n1 6 (wdA Z) ++ arrS Z n2 6 (wdB Z)) ++ arrS Z n3 5 (wdC Z))) (M := wPl Z L) (B := []) (by simp only [List.append_assoc, List.append_nil, List.nil_append]) (wPl_at hi9)) rfl ?_
      refine J_bipush 6 C iX10_text_151 rfl ?_
      refine J_icmpge 188 C iX10_text_153 rfl (fun h153 => ?_) (fun h153 => absurd (by decide) h153)
      refine J_aload_n C iX10_text_188 rfl rfl ?_
      refine J_get (.int 25) ((((arrS Z n1 6 (wdA Z) ++ arrS Z n2 6 (wdB Z)) ++ arrS Z n3 5 (wdC Z))).length + i) C iX10_text_189 gf_X10_7 (mid_at (A := ((arrS Z n1 6 (wdA Z) ++ arrS Z n2 6 (wdB Z)) ++ arrS Z n3 5 (wdC Z))) (M := wPl Z L) (B := []) (by simp only [List.append_assoc, List.append_nil, List.nil_append]) (wPl_at hi9)) rfl ?_
      refine J_bipush 6 C iX10_text_192 rfl ?_
      refine J_icmpne 228 C iX10_text_194 rfl (fun h194 => ?_) (fun h194 => absurd h194 (by decide))
      refine J_aload_n C iX10_text_228 rfl rfl ?_
      refine J_get (.int 25) ((((arrS Z n1 6 (wdA Z) ++ arrS Z n2 6 (wdB Z)) ++ arrS Z n3 5 (wdC Z))).length + i) C iX10_text_229 gf_X10_7 (mid_at (A := ((arrS Z n1 6 (wdA Z) ++ arrS Z n2 6 (wdB Z)) ++ arrS Z n3 5 (wdC Z))) (M := wPl Z L) (B := []) (by simp only [List.append_assoc, List.append_nil, List.nil_append]) (wPl_at hi9)) rfl ?_
      refine J_bipush 11 C iX10_text_232 rfl ?_
      refine J_icmpge 300 C iX10_text_234 rfl (fun h234 => ?_) (fun h234 => absurd (by decide) h234)
      refine J_aload_n C iX10_text_300 rfl rfl ?_
      refine J_get (.int 25) ((((arrS Z n1 6 (wdA Z) ++ arrS Z n2 6 (wdB Z)) ++ arrS Z n3 5 (wdC Z))).length + i) C iX10_text_301 gf_X10_7 (mid_at (A := ((arrS Z n1 6 (wdA Z) ++ arrS Z n2 6 (wdB Z)) ++ arrS Z n3 5 (wdC Z))) (M := wPl Z L) (B := []) (by simp only [List.append_assoc, List.append_nil, List.nil_append]) (wPl_at hi9)) rfl ?_
      refine J_bipush 13 C iX10_text_304 rfl ?_
      refine J_icmpge 362 C iX10_text_306 rfl (fun h306 => ?_) (fun h306 => absurd (by decide) h306)
      refine J_aload_n C iX10_text_362 rfl rfl ?_
      refine J_get (.int 25) ((((arrS Z n1 6 (wdA Z) ++ arrS Z n2 6 (wdB Z)) ++ arrS Z n3 5 (wdC Z))).length + i) C iX10_text_363 gf_X10_7 (mid_at (A := ((arrS Z n1 6 (wdA Z) ++ arrS Z n2 6 (wdB Z)) ++ arrS Z n3 5 (wdC Z))) (M := wPl Z L) (B := []) (by simp only [List.append_assoc, List.append_nil, List.nil_append]) (wPl_at hi9)) rfl ?_
      refine J_bipush 25 C iX10_text_366 rfl ?_
      refine J_icmpge 414 C iX10_text_368 rfl (fun h368 => ?_) (fun h368 => absurd (by decide) h368)
      refine J_aload_n C iX10_text_414 rfl rfl ?_
      refine J_get (.int 25) ((((arrS Z n1 6 (wdA Z) ++ arrS Z n2 6 (wdB Z)) ++ arrS Z n3 5 (wdC Z))).length + i) C iX10_text_415 gf_X10_7 (mid_at (A := ((arrS Z n1 6 (wdA Z) ++ arrS Z n2 6 (wdB Z)) ++ arrS Z n3 5 (wdC Z))) (M := wPl Z L) (B := []) (by simp only [List.append_assoc, List.append_nil, List.nil_append]) (wPl_at hi9)) rfl ?_
      refine J_bipush 25 C iX10_text_418 rfl ?_
      refine J_icmpne 463 C iX10_text_420 rfl (fun h420 => absurd (by decide) h420) (fun h420 => ?_)
      refine J_room (rc2 := 1 + (16 + 2 * tcN fu)) (rs2 := 4 + (30979 + 2 * tsN fu)) (by omega) (by omega) ?_
      refine J_new (ci := 11) [.null, .int 0, .int 0, .int 0] tyJ4 C iX10_text_423 rfl lay_J4 tyJ4_ok (tsg_in (i := 1410) (by decide +kernel) rfl) (tsg_in (i := 1411) (by decide +kernel) rfl) (tsg_in (i := 45) (by decide +kernel) rfl) df_J4 (fun n20 => ?_)
      refine J_ws ((((arrS Z n1 6 (wdA Z) ++ arrS Z n2 6 (wdB Z)) ++ arrS Z n3 5 (wdC Z)) ++ wPl Z L) ++ wS0 Z n20) rfl ?_
      refine J_perm ((((arrS Z n1 6 (wdA Z) ++ arrS Z n2 6 (wdB Z)) ++ arrS Z n3 5 (wdC Z)) ++ wS0 Z n20) ++ wPl Z L) (sw2 _ _ _) ?_
      refine J_dup C iX10_text_426 rfl ?_
      refine J_room (rc2 := 1 + (15 + 2 * tcN fu)) (rs2 := 16 + (30963 + 2 * tsN fu)) (by omega) (by omega) ?_
      refine J_cIb (As := []) (st := .ref n20 :: []) (rc2 := 15 + 2 * tcN fu) (rs2 := 30963 + 2 * tsN fu) (w0 := (wS0 Z n20)) C iX10_text_427 lm_X10_95 yc_J4_init_da8c8 yi_J4_init_da8c8 c_J4_init_da8c8 ((arrS Z n1 6 (wdA Z) ++ arrS Z n2 6 (wdB Z)) ++ arrS Z n3 5 (wdC Z)) (wPl Z L) (by simp only [List.append_assoc, List.append_nil, List.nil_append]) rfl (rmT_m (by decide) (by decide)) (Nat.le_of_ble_eq_true rfl) rfl rfl ?_
      rintro _ _ ⟨rfl, q1, rfl⟩
      refine J_st (.ref n20 :: []) rfl ?_
      refine J_ws (((((arrS Z n1 6 (wdA Z) ++ arrS Z n2 6 (wdB Z)) ++ arrS Z n3 5 (wdC Z)) ++ wSo Z n20 q1 0) ++ arrB Z q1 16 (fun _ => 0)) ++ wPl Z L) (by simp only [List.append_assoc, List.append_nil, List.nil_append]) ?_
      refine J_ldcS 35 C iX10_text_430 rfl ?_
      refine J_room (rc2 := 1 + (14 + 2 * tcN fu)) (rs2 := 4002 + (26961 + 2 * tsN fu)) (by omega) (by omega) ?_
      refine J_cVb (As := [.ref (zsk Z 35)]) (st := []) (rc2 := 14 + 2 * tcN fu) (rs2 := 26961 + 2 * tsN fu) (w0 := (wSo Z n20 q1 0 ++ arrB Z q1 16 (fun _ => 0))) (q0 := 0) C iX10_text_432 lm_X10_96 yc_J4_append_15ec4 yv_J4_append_15ec4 (c_J4_append_C (T := ([] : List Nat)) (i := 35) sb_new (by decide) (by simp only [List.length_append, List.length_nil] at hl9 ⊢; omega)) rfl rfl rfl ((arrS Z n1 6 (wdA Z) ++ arrS Z n2 6 (wdB Z)) ++ arrS Z n3 5 (wdC Z)) (wPl Z L) (by simp only [List.append_assoc, List.append_nil, List.nil_append]) rfl (rmT_m (by decide) (by decide)) (Nat.le_of_ble_eq_true rfl) rfl rfl ?_
      rintro _ _ ⟨rfl, y2, c2, b2, rfl, h2⟩
      refine J_st (.ref n20 :: []) rfl ?_
      refine J_ws (((((arrS Z n1 6 (wdA Z) ++ arrS Z n2 6 (wdB Z)) ++ arrS Z n3 5 (wdC Z)) ++ wSo Z n20 y2 (nI (([] : List Nat) ++ cTx 35).length)) ++ arrB Z y2 c2 b2) ++ wPl Z L) (by simp only [List.append_assoc, List.append_nil, List.nil_append]) ?_
      refine J_aload_n C iX10_text_435 rfl rfl ?_
      refine J_get (.int (nI (nuQ n q))) ((((((arrS Z n1 6 (wdA Z) ++ arrS Z n2 6 (wdB Z)) ++ arrS Z n3 5 (wdC Z)) ++ wSo Z n20 y2 (nI (([] : List Nat) ++ cTx 35).length)) ++ arrB Z y2 c2 b2)).length + i) C iX10_text_436 gf_X10_13 (mid_at (A := ((((arrS Z n1 6 (wdA Z) ++ arrS Z n2 6 (wdB Z)) ++ arrS Z n3 5 (wdC Z)) ++ wSo Z n20 y2 (nI (([] : List Nat) ++ cTx 35).length)) ++ arrB Z y2 c2 b2)) (M := wPl Z L) (B := []) (by simp only [List.append_assoc, List.append_nil, List.nil_append]) (wPl_at hi9)) rfl ?_
      refine J_room (rc2 := 1 + (13 + 2 * tcN fu)) (rs2 := 4002 + (22959 + 2 * tsN fu)) (by omega) (by omega) ?_
      refine J_cVb (As := [.int (nI (nuQ n q))]) (st := []) (rc2 := 13 + 2 * tcN fu) (rs2 := 22959 + 2 * tsN fu) (w0 := ((wSo Z n20 y2 (nI (([] : List Nat) ++ cTx 35).length)) ++ arrB Z y2 c2 b2)) (q0 := 0) C iX10_text_439 lm_X10_100 yc_J4_append_bf812 yv_J4_append_bf812 (c_J4_append_N (T := (([] : List Nat) ++ cTx 35)) (v := (nuQ n q)) h2 hnb (by simp only [List.length_append, List.length_nil] at hl9 ⊢; omega)) rfl rfl rfl ((arrS Z n1 6 (wdA Z) ++ arrS Z n2 6 (wdB Z)) ++ arrS Z n3 5 (wdC Z)) (wPl Z L) (by simp only [List.append_assoc, List.append_nil, List.nil_append]) rfl (rmT_m (by decide) (by decide)) (Nat.le_of_ble_eq_true rfl) rfl rfl ?_
      rintro _ _ ⟨rfl, y3, c3, b3, rfl, h3⟩
      refine J_st (.ref n20 :: []) rfl ?_
      refine J_ws (((((arrS Z n1 6 (wdA Z) ++ arrS Z n2 6 (wdB Z)) ++ arrS Z n3 5 (wdC Z)) ++ wSo Z n20 y3 (nI ((([] : List Nat) ++ cTx 35) ++ dTx (nuQ n q)).length)) ++ arrB Z y3 c3 b3) ++ wPl Z L) (by simp only [List.append_assoc, List.append_nil, List.nil_append]) ?_
      refine J_ldcS 36 C iX10_text_442 rfl ?_
      refine J_room (rc2 := 1 + (12 + 2 * tcN fu)) (rs2 := 4002 + (18957 + 2 * tsN fu)) (by omega) (by omega) ?_
      refine J_cVb (As := [.ref (zsk Z 36)]) (st := []) (rc2 := 12 + 2 * tcN fu) (rs2 := 18957 + 2 * tsN fu) (w0 := ((wSo Z n20 y3 (nI ((([] : List Nat) ++ cTx 35) ++ dTx (nuQ n q)).length)) ++ arrB Z y3 c3 b3)) (q0 := 0) C iX10_text_444 lm_X10_96 yc_J4_append_15ec4 yv_J4_append_15ec4 (c_J4_append_C (T := ((([] : List Nat) ++ cTx 35) ++ dTx (nuQ n q))) (i := 36) h3 (by decide) (by simp only [List.length_append, List.length_nil] at hl9 ⊢; omega)) rfl rfl rfl ((arrS Z n1 6 (wdA Z) ++ arrS Z n2 6 (wdB Z)) ++ arrS Z n3 5 (wdC Z)) (wPl Z L) (by simp only [List.append_assoc, List.append_nil, List.nil_append]) rfl (rmT_m (by decide) (by decide)) (Nat.le_of_ble_eq_true rfl) rfl rfl ?_
      rintro _ _ ⟨rfl, y4, c4, b4, rfl, h4⟩
      refine J_st (.ref n20 :: []) rfl ?_
      refine J_ws (((((arrS Z n1 6 (wdA Z) ++ arrS Z n2 6 (wdB Z)) ++ arrS Z n3 5 (wdC Z)) ++ wSo Z n20 y4 (nI (((([] : List Nat) ++ cTx 35) ++ dTx (nuQ n q)) ++ cTx 36).length)) ++ arrB Z y4 c4 b4) ++ wPl Z L) (by simp only [List.append_assoc, List.append_nil, List.nil_append]) ?_
      refine J_aload_n C iX10_text_447 rfl rfl ?_
      refine J_get (.int (nI (otN n q))) ((((((arrS Z n1 6 (wdA Z) ++ arrS Z n2 6 (wdB Z)) ++ arrS Z n3 5 (wdC Z)) ++ wSo Z n20 y4 (nI (((([] : List Nat) ++ cTx 35) ++ dTx (nuQ n q)) ++ cTx 36).length)) ++ arrB Z y4 c4 b4)).length + i) C iX10_text_448 gf_X10_44 (mid_at (A := ((((arrS Z n1 6 (wdA Z) ++ arrS Z n2 6 (wdB Z)) ++ arrS Z n3 5 (wdC Z)) ++ wSo Z n20 y4 (nI (((([] : List Nat) ++ cTx 35) ++ dTx (nuQ n q)) ++ cTx 36).length)) ++ arrB Z y4 c4 b4)) (M := wPl Z L) (B := []) (by simp only [List.append_assoc, List.append_nil, List.nil_append]) (wPl_at hi9)) rfl ?_
      refine J_room (rc2 := 1 + (11 + 2 * tcN fu)) (rs2 := 4002 + (14955 + 2 * tsN fu)) (by omega) (by omega) ?_
      refine J_cVb (As := [.int (nI (otN n q))]) (st := []) (rc2 := 11 + 2 * tcN fu) (rs2 := 14955 + 2 * tsN fu) (w0 := ((wSo Z n20 y4 (nI (((([] : List Nat) ++ cTx 35) ++ dTx (nuQ n q)) ++ cTx 36).length)) ++ arrB Z y4 c4 b4)) (q0 := 0) C iX10_text_451 lm_X10_100 yc_J4_append_bf812 yv_J4_append_bf812 (c_J4_append_N (T := (((([] : List Nat) ++ cTx 35) ++ dTx (nuQ n q)) ++ cTx 36)) (v := (otN n q)) h4 hob (by simp only [List.length_append, List.length_nil] at hl9 ⊢; omega)) rfl rfl rfl ((arrS Z n1 6 (wdA Z) ++ arrS Z n2 6 (wdB Z)) ++ arrS Z n3 5 (wdC Z)) (wPl Z L) (by simp only [List.append_assoc, List.append_nil, List.nil_append]) rfl (rmT_m (by decide) (by decide)) (Nat.le_of_ble_eq_true rfl) rfl rfl ?_
      rintro _ _ ⟨rfl, y5, c5, b5, rfl, h5⟩
      refine J_st (.ref n20 :: []) rfl ?_
      refine J_ws (((((arrS Z n1 6 (wdA Z) ++ arrS Z n2 6 (wdB Z)) ++ arrS Z n3 5 (wdC Z)) ++ wSo Z n20 y5 (nI ((((([] : List Nat) ++ cTx 35) ++ dTx (nuQ n q)) ++ cTx 36) ++ dTx (otN n q)).length)) ++ arrB Z y5 c5 b5) ++ wPl Z L) (by simp only [List.append_assoc, List.append_nil, List.nil_append]) ?_
      refine J_ldcS 30 C iX10_text_454 rfl ?_
      refine J_room (rc2 := 1 + (10 + 2 * tcN fu)) (rs2 := 4002 + (10953 + 2 * tsN fu)) (by omega) (by omega) ?_
      refine J_cVb (As := [.ref (zsk Z 30)]) (st := []) (rc2 := 10 + 2 * tcN fu) (rs2 := 10953 + 2 * tsN fu) (w0 := ((wSo Z n20 y5 (nI ((((([] : List Nat) ++ cTx 35) ++ dTx (nuQ n q)) ++ cTx 36) ++ dTx (otN n q)).length)) ++ arrB Z y5 c5 b5)) (q0 := 0) C iX10_text_456 lm_X10_96 yc_J4_append_15ec4 yv_J4_append_15ec4 (c_J4_append_C (T := ((((([] : List Nat) ++ cTx 35) ++ dTx (nuQ n q)) ++ cTx 36) ++ dTx (otN n q))) (i := 30) h5 (by decide) (by simp only [List.length_append, List.length_nil] at hl9 ⊢; omega)) rfl rfl rfl ((arrS Z n1 6 (wdA Z) ++ arrS Z n2 6 (wdB Z)) ++ arrS Z n3 5 (wdC Z)) (wPl Z L) (by simp only [List.append_assoc, List.append_nil, List.nil_append]) rfl (rmT_m (by decide) (by decide)) (Nat.le_of_ble_eq_true rfl) rfl rfl ?_
      rintro _ _ ⟨rfl, y6, c6, b6, rfl, h6⟩
      refine J_st (.ref n20 :: []) rfl ?_
      refine J_ws (((((arrS Z n1 6 (wdA Z) ++ arrS Z n2 6 (wdB Z)) ++ arrS Z n3 5 (wdC Z)) ++ wSo Z n20 y6 (nI (((((([] : List Nat) ++ cTx 35) ++ dTx (nuQ n q)) ++ cTx 36) ++ dTx (otN n q)) ++ cTx 30).length)) ++ arrB Z y6 c6 b6) ++ wPl Z L) (by simp only [List.append_assoc, List.append_nil, List.nil_append]) ?_
      refine J_room (rc2 := 2 + (8 + 2 * tcN fu)) (rs2 := 2004 + (8949 + 2 * tsN fu)) (by omega) (by omega) ?_
      refine J_cVb (As := []) (st := []) (rc2 := 8 + 2 * tcN fu) (rs2 := 8949 + 2 * tsN fu) (w0 := ((wSo Z n20 y6 (nI (((((([] : List Nat) ++ cTx 35) ++ dTx (nuQ n q)) ++ cTx 36) ++ dTx (otN n q)) ++ cTx 30).length)) ++ arrB Z y6 c6 b6)) (q0 := 0) C iX10_text_459 lm_X10_103 yc_J4_toString_0e30d yv_J4_toString_0e30d (c_J4_toString_0e30d (T := (((((([] : List Nat) ++ cTx 35) ++ dTx (nuQ n q)) ++ cTx 36) ++ dTx (otN n q)) ++ cTx 30)) h6 (by simp only [List.length_append, List.length_nil] at hl9 ⊢; omega)) rfl rfl rfl ((arrS Z n1 6 (wdA Z) ++ arrS Z n2 6 (wdB Z)) ++ arrS Z n3 5 (wdC Z)) (wPl Z L) (by simp only [List.append_assoc, List.append_nil, List.nil_append]) rfl (rmT_m (by decide) (by decide)) (Nat.le_of_ble_eq_true rfl) rfl rfl ?_
      rintro _ _ ⟨s7, t7, b7, rfl, rfl, h7⟩
      refine J_st (.ref s7 :: []) rfl ?_
      refine J_ws (((((((arrS Z n1 6 (wdA Z) ++ arrS Z n2 6 (wdB Z)) ++ arrS Z n3 5 (wdC Z)) ++ wTo Z s7 t7) ++ wSo Z n20 y6 (nI (((((([] : List Nat) ++ cTx 35) ++ dTx (nuQ n q)) ++ cTx 36) ++ dTx (otN n q)) ++ cTx 30).length)) ++ arrB Z y6 c6 b6) ++ arrB Z t7 ((((((([] : List Nat) ++ cTx 35) ++ dTx (nuQ n q)) ++ cTx 36) ++ dTx (otN n q)) ++ cTx 30).length) b7) ++ wPl Z L) (by simp only [List.append_assoc, List.append_nil, List.nil_append]) ?_
      refine J_drop [] ((arrS Z n1 6 (wdA Z) ++ arrS Z n2 6 (wdB Z)) ++ arrS Z n3 5 (wdC Z)) ((((wTo Z s7 t7 ++ wSo Z n20 y6 (nI (((((([] : List Nat) ++ cTx 35) ++ dTx (nuQ n q)) ++ cTx 36) ++ dTx (otN n q)) ++ cTx 30).length)) ++ arrB Z y6 c6 b6) ++ arrB Z t7 ((((((([] : List Nat) ++ cTx 35) ++ dTx (nuQ n q)) ++ cTx 36) ++ dTx (otN n q)) ++ cTx 30).length) b7) ++ wPl Z L) (by simp only [List.append_assoc, List.append_nil, List.nil_append]) ?_
      refine J_ws ((((wTo Z s7 t7 ++ wSo Z n20 y6 (nI (((((([] : List Nat) ++ cTx 35) ++ dTx (nuQ n q)) ++ cTx 36) ++ dTx (otN n q)) ++ cTx 30).length)) ++ arrB Z y6 c6 b6) ++ arrB Z t7 ((((((([] : List Nat) ++ cTx 35) ++ dTx (nuQ n q)) ++ cTx 36) ++ dTx (otN n q)) ++ cTx 30).length) b7) ++ wPl Z L) (by simp only [List.append_assoc, List.append_nil, List.nil_append]) ?_
      refine J_drop (wTo Z s7 t7) ((wSo Z n20 y6 (nI (((((([] : List Nat) ++ cTx 35) ++ dTx (nuQ n q)) ++ cTx 36) ++ dTx (otN n q)) ++ cTx 30).length)) ++ arrB Z y6 c6 b6) ((arrB Z t7 ((((((([] : List Nat) ++ cTx 35) ++ dTx (nuQ n q)) ++ cTx 36) ++ dTx (otN n q)) ++ cTx 30).length) b7) ++ wPl Z L) (by simp only [List.append_assoc, List.append_nil, List.nil_append]) ?_
      refine J_ws ((wTo Z s7 t7 ++ arrB Z t7 ((((((([] : List Nat) ++ cTx 35) ++ dTx (nuQ n q)) ++ cTx 36) ++ dTx (otN n q)) ++ cTx 30).length) b7) ++ wPl Z L) (by simp only [List.append_assoc, List.append_nil, List.nil_append]) ?_
      refine J_perm ((wTo Z s7 t7 ++ wPl Z L) ++ arrB Z t7 ((((((([] : List Nat) ++ cTx 35) ++ dTx (nuQ n q)) ++ cTx 36) ++ dTx (otN n q)) ++ cTx 30).length) b7) (sw2 _ _ _) ?_
      refine J_perm ((wPl Z L ++ wTo Z s7 t7) ++ arrB Z t7 ((((((([] : List Nat) ++ cTx 35) ++ dTx (nuQ n q)) ++ cTx 36) ++ dTx (otN n q)) ++ cTx 30).length) b7) (List.perm_append_comm.append_right _) ?_
      exact J_aret C E iX10_text_462 (Or.inl ⟨_, rfl⟩) (Or.inr ⟨s7, _, _, rfl, rfl, h7⟩)
    · rw [hk] at hi9 hbA hbB
      have htx : txN n (fu + 1) q = (((([] : List Nat) ++ cTx 37) ++ dTx (nuQ n q)) ++ cTx 30) := by rw [txN, tx1, if_neg (by omega), if_neg (by omega), if_neg (by omega), if_neg (by omega), if_neg (by omega), if_neg (by omega), if_neg (by omega), if_neg (by omega), if_neg (by omega), if_neg (by omega), if_neg (by omega), if_neg (by omega), if_neg (by omega), if_neg (by omega), if_neg (by omega), if_neg (by omega), if_neg (by omega), if_neg (by omega), if_neg (by omega), if_pos hk]
      rw [htx] at hl9 ⊢
      refine J_aload_n C iX10_text_102 rfl rfl ?_
      refine J_get (.int 26) ((((arrS Z n1 6 (wdA Z) ++ arrS Z n2 6 (wdB Z)) ++ arrS Z n3 5 (wdC Z))).length + i) C iX10_text_103 gf_X10_7 (mid_at (A := ((arrS Z n1 6 (wdA Z) ++ arrS Z n2 6 (wdB Z)) ++ arrS Z n3 5 (wdC Z))) (M := wPl Z L) (B := []) (by simp only [List.append_assoc, List.append_nil, List.nil_append]) (wPl_at hi9)) rfl ?_
      refine J_ifne 132 C iX10_text_106 rfl (fun h106 => ?_) (fun h106 => absurd h106 (by decide))
      refine J_aload_n C iX10_text_132 rfl rfl ?_
      refine J_get (.int 26) ((((arrS Z n1 6 (wdA Z) ++ arrS Z n2 6 (wdB Z)) ++ arrS Z n3 5 (wdC Z))).length + i) C iX10_text_133 gf_X10_7 (mid_at (A := ((arrS Z n1 6 (wdA Z) ++ arrS Z n2 6 (wdB Z)) ++ arrS Z n3 5 (wdC Z))) (M := wPl Z L) (B := []) (by simp only [List.append_assoc, List.append_nil, List.nil_append]) (wPl_at hi9)) rfl ?_
      refine J_iconst 3 C iX10_text_136 rfl ?_
      refine J_icmpge 147 C iX10_text_137 rfl (fun h137 => ?_) (fun h137 => absurd (by decide) h137)
      refine J_aload_n C iX10_text_147 rfl rfl ?_
      refine J_get (.int 26) ((((arrS Z n1 6 (wdA Z) ++ arrS Z n2 6 (wdB Z)) ++ arrS Z n3 5 (wdC Z))).length + i) C iX10_text_148 gf_X10_7 (mid_at (A := ((arrS Z n1 6 (wdA Z) ++ arrS Z n2 6 (wdB Z)) ++ arrS Z n3 5 (wdC Z))) (M := wPl Z L) (B := []) (by simp only [List.append_assoc, List.append_nil, List.nil_append]) (wPl_at hi9)) rfl ?_
      refine J_bipush 6 C iX10_text_151 rfl ?_
      refine J_icmpge 188 C iX10_text_153 rfl (fun h153 => ?_) (fun h153 => absurd (by decide) h153)
      refine J_aload_n C iX10_text_188 rfl rfl ?_
      refine J_get (.int 26) ((((arrS Z n1 6 (wdA Z) ++ arrS Z n2 6 (wdB Z)) ++ arrS Z n3 5 (wdC Z))).length + i) C iX10_text_189 gf_X10_7 (mid_at (A := ((arrS Z n1 6 (wdA Z) ++ arrS Z n2 6 (wdB Z)) ++ arrS Z n3 5 (wdC Z))) (M := wPl Z L) (B := []) (by simp only [List.append_assoc, List.append_nil, List.nil_append]) (wPl_at hi9)) rfl ?_
      refine J_bipush 6 C iX10_text_192 rfl ?_
      refine J_icmpne 228 C iX10_text_194 rfl (fun h194 => ?_) (fun h194 => absurd h194 (by decide))
      refine J_aload_n C iX10_text_228 rfl rfl ?_
      refine J_get (.int 26) ((((arrS Z n1 6 (wdA Z) ++ arrS Z n2 6 (wdB Z)) ++ arrS Z n3 5 (wdC Z))).length + i) C iX10_text_229 gf_X10_7 (mid_at (A := ((arrS Z n1 6 (wdA Z) ++ arrS Z n2 6 (wdB Z)) ++ arrS Z n3 5 (wdC Z))) (M := wPl Z L) (B := []) (by simp only [List.append_assoc, List.append_nil, List.nil_append]) (wPl_at hi9)) rfl ?_
      refine J_bipush 11 C iX10_text_232 rfl ?_
      refine J_icmpge 300 C iX10_text_234 rfl (fun h234 => ?_) (fun h234 => absurd (by decide) h234)
      refine J_aload_n C iX10_text_300 rfl rfl ?_
      refine J_get (.int 26) ((((arrS Z n1 6 (wdA Z) ++ arrS Z n2 6 (wdB Z)) ++ arrS Z n3 5 (wdC Z))).length + i) C iX10_text_301 gf_X10_7 (mid_at (A := ((arrS Z n1 6 (wdA Z) ++ arrS Z n2 6 (wdB Z)) ++ arrS Z n3 5 (wdC Z))) (M := wPl Z L) (B := []) (by simp only [List.append_assoc, List.append_nil, List.nil_append]) (wPl_at hi9)) rfl ?_
      refine J_bipush 13 C iX10_text_304 rfl ?_
      refine J_icmpge 362 C iX10_text_306 rfl (fun h306 => ?_) (fun h306 => absurd (by decide) h306)
      refine J_aload_n C iX10_text_362 rfl rfl ?_
      refine J_get (.int 26) ((((arrS Z n1 6 (wdA Z) ++ arrS Z n2 6 (wdB Z)) ++ arrS Z n3 5 (wdC Z))).length + i) C iX10_text_363 gf_X10_7 (mid_at (A := ((arrS Z n1 6 (wdA Z) ++ arrS Z n2 6 (wdB Z)) ++ arrS Z n3 5 (wdC Z))) (M := wPl Z L) (B := []) (by simp only [List.append_assoc, List.append_nil, List.nil_append]) (wPl_at hi9)) rfl ?_
      refine J_bipush 25 C iX10_text_366 rfl ?_
      refine J_icmpge 414 C iX10_text_368 rfl (fun h368 => ?_) (fun h368 => absurd (by decide) h368)
      refine J_aload_n C iX10_text_414 rfl rfl ?_
      refine J_get (.int 26) ((((arrS Z n1 6 (wdA Z) ++ arrS Z n2 6 (wdB Z)) ++ arrS Z n3 5 (wdC Z))).length + i) C iX10_text_415 gf_X10_7 (mid_at (A := ((arrS Z n1 6 (wdA Z) ++ arrS Z n2 6 (wdB Z)) ++ arrS Z n3 5 (wdC Z))) (M := wPl Z L) (B := []) (by simp only [List.append_assoc, List.append_nil, List.nil_append]) (wPl_at hi9)) rfl ?_
      refine J_bipush 25 C iX10_text_418 rfl ?_
      refine J_icmpne 463 C iX10_text_420 rfl (fun h420 => ?_) (fun h420 => absurd h420 (by decide))
      refine J_aload_n C iX10_text_463 rfl rfl ?_
      refine J_get (.int 26) ((((arrS Z n1 6 (wdA Z) ++ arrS Z n2 6 (wdB Z)) ++ arrS Z n3 5 (wdC Z))).length + i) C iX10_text_464 gf_X10_7 (mid_at (A := ((arrS Z n1 6 (wdA Z) ++ arrS Z n2 6 (wdB Z)) ++ arrS Z n3 5 (wdC Z))) (M := wPl Z L) (B := []) (by simp only [List.append_assoc, List.append_nil, List.nil_append]) (wPl_at hi9)) rfl ?_
      refine J_bipush 26 C iX10_text_467 rfl ?_
      refine J_icmpne 500 C iX10_text_469 rfl (fun h469 => absurd (by decide) h469) (fun h469 => ?_)
      refine J_room (rc2 := 1 + (16 + 2 * tcN fu)) (rs2 := 4 + (30979 + 2 * tsN fu)) (by omega) (by omega) ?_
      refine J_new (ci := 11) [.null, .int 0, .int 0, .int 0] tyJ4 C iX10_text_472 rfl lay_J4 tyJ4_ok (tsg_in (i := 1410) (by decide +kernel) rfl) (tsg_in (i := 1411) (by decide +kernel) rfl) (tsg_in (i := 45) (by decide +kernel) rfl) df_J4 (fun n21 => ?_)
      refine J_ws ((((arrS Z n1 6 (wdA Z) ++ arrS Z n2 6 (wdB Z)) ++ arrS Z n3 5 (wdC Z)) ++ wPl Z L) ++ wS0 Z n21) rfl ?_
      refine J_perm ((((arrS Z n1 6 (wdA Z) ++ arrS Z n2 6 (wdB Z)) ++ arrS Z n3 5 (wdC Z)) ++ wS0 Z n21) ++ wPl Z L) (sw2 _ _ _) ?_
      refine J_dup C iX10_text_475 rfl ?_
      refine J_room (rc2 := 1 + (15 + 2 * tcN fu)) (rs2 := 16 + (30963 + 2 * tsN fu)) (by omega) (by omega) ?_
      refine J_cIb (As := []) (st := .ref n21 :: []) (rc2 := 15 + 2 * tcN fu) (rs2 := 30963 + 2 * tsN fu) (w0 := (wS0 Z n21)) C iX10_text_476 lm_X10_95 yc_J4_init_da8c8 yi_J4_init_da8c8 c_J4_init_da8c8 ((arrS Z n1 6 (wdA Z) ++ arrS Z n2 6 (wdB Z)) ++ arrS Z n3 5 (wdC Z)) (wPl Z L) (by simp only [List.append_assoc, List.append_nil, List.nil_append]) rfl (rmT_m (by decide) (by decide)) (Nat.le_of_ble_eq_true rfl) rfl rfl ?_
      rintro _ _ ⟨rfl, q1, rfl⟩
      refine J_st (.ref n21 :: []) rfl ?_
      refine J_ws (((((arrS Z n1 6 (wdA Z) ++ arrS Z n2 6 (wdB Z)) ++ arrS Z n3 5 (wdC Z)) ++ wSo Z n21 q1 0) ++ arrB Z q1 16 (fun _ => 0)) ++ wPl Z L) (by simp only [List.append_assoc, List.append_nil, List.nil_append]) ?_
      refine J_ldcS 37 C iX10_text_479 rfl ?_
      refine J_room (rc2 := 1 + (14 + 2 * tcN fu)) (rs2 := 4002 + (26961 + 2 * tsN fu)) (by omega) (by omega) ?_
      refine J_cVb (As := [.ref (zsk Z 37)]) (st := []) (rc2 := 14 + 2 * tcN fu) (rs2 := 26961 + 2 * tsN fu) (w0 := (wSo Z n21 q1 0 ++ arrB Z q1 16 (fun _ => 0))) (q0 := 0) C iX10_text_481 lm_X10_96 yc_J4_append_15ec4 yv_J4_append_15ec4 (c_J4_append_C (T := ([] : List Nat)) (i := 37) sb_new (by decide) (by simp only [List.length_append, List.length_nil] at hl9 ⊢; omega)) rfl rfl rfl ((arrS Z n1 6 (wdA Z) ++ arrS Z n2 6 (wdB Z)) ++ arrS Z n3 5 (wdC Z)) (wPl Z L) (by simp only [List.append_assoc, List.append_nil, List.nil_append]) rfl (rmT_m (by decide) (by decide)) (Nat.le_of_ble_eq_true rfl) rfl rfl ?_
      rintro _ _ ⟨rfl, y2, c2, b2, rfl, h2⟩
      refine J_st (.ref n21 :: []) rfl ?_
      refine J_ws (((((arrS Z n1 6 (wdA Z) ++ arrS Z n2 6 (wdB Z)) ++ arrS Z n3 5 (wdC Z)) ++ wSo Z n21 y2 (nI (([] : List Nat) ++ cTx 37).length)) ++ arrB Z y2 c2 b2) ++ wPl Z L) (by simp only [List.append_assoc, List.append_nil, List.nil_append]) ?_
      refine J_aload_n C iX10_text_484 rfl rfl ?_
      refine J_get (.int (nI (nuQ n q))) ((((((arrS Z n1 6 (wdA Z) ++ arrS Z n2 6 (wdB Z)) ++ arrS Z n3 5 (wdC Z)) ++ wSo Z n21 y2 (nI (([] : List Nat) ++ cTx 37).length)) ++ arrB Z y2 c2 b2)).length + i) C iX10_text_485 gf_X10_13 (mid_at (A := ((((arrS Z n1 6 (wdA Z) ++ arrS Z n2 6 (wdB Z)) ++ arrS Z n3 5 (wdC Z)) ++ wSo Z n21 y2 (nI (([] : List Nat) ++ cTx 37).length)) ++ arrB Z y2 c2 b2)) (M := wPl Z L) (B := []) (by simp only [List.append_assoc, List.append_nil, List.nil_append]) (wPl_at hi9)) rfl ?_
      refine J_room (rc2 := 1 + (13 + 2 * tcN fu)) (rs2 := 4002 + (22959 + 2 * tsN fu)) (by omega) (by omega) ?_
      refine J_cVb (As := [.int (nI (nuQ n q))]) (st := []) (rc2 := 13 + 2 * tcN fu) (rs2 := 22959 + 2 * tsN fu) (w0 := ((wSo Z n21 y2 (nI (([] : List Nat) ++ cTx 37).length)) ++ arrB Z y2 c2 b2)) (q0 := 0) C iX10_text_488 lm_X10_100 yc_J4_append_bf812 yv_J4_append_bf812 (c_J4_append_N (T := (([] : List Nat) ++ cTx 37)) (v := (nuQ n q)) h2 hnb (by simp only [List.length_append, List.length_nil] at hl9 ⊢; omega)) rfl rfl rfl ((arrS Z n1 6 (wdA Z) ++ arrS Z n2 6 (wdB Z)) ++ arrS Z n3 5 (wdC Z)) (wPl Z L) (by simp only [List.append_assoc, List.append_nil, List.nil_append]) rfl (rmT_m (by decide) (by decide)) (Nat.le_of_ble_eq_true rfl) rfl rfl ?_
      rintro _ _ ⟨rfl, y3, c3, b3, rfl, h3⟩
      refine J_st (.ref n21 :: []) rfl ?_
      refine J_ws (((((arrS Z n1 6 (wdA Z) ++ arrS Z n2 6 (wdB Z)) ++ arrS Z n3 5 (wdC Z)) ++ wSo Z n21 y3 (nI ((([] : List Nat) ++ cTx 37) ++ dTx (nuQ n q)).length)) ++ arrB Z y3 c3 b3) ++ wPl Z L) (by simp only [List.append_assoc, List.append_nil, List.nil_append]) ?_
      refine J_ldcS 30 C iX10_text_491 rfl ?_
      refine J_room (rc2 := 1 + (12 + 2 * tcN fu)) (rs2 := 4002 + (18957 + 2 * tsN fu)) (by omega) (by omega) ?_
      refine J_cVb (As := [.ref (zsk Z 30)]) (st := []) (rc2 := 12 + 2 * tcN fu) (rs2 := 18957 + 2 * tsN fu) (w0 := ((wSo Z n21 y3 (nI ((([] : List Nat) ++ cTx 37) ++ dTx (nuQ n q)).length)) ++ arrB Z y3 c3 b3)) (q0 := 0) C iX10_text_493 lm_X10_96 yc_J4_append_15ec4 yv_J4_append_15ec4 (c_J4_append_C (T := ((([] : List Nat) ++ cTx 37) ++ dTx (nuQ n q))) (i := 30) h3 (by decide) (by simp only [List.length_append, List.length_nil] at hl9 ⊢; omega)) rfl rfl rfl ((arrS Z n1 6 (wdA Z) ++ arrS Z n2 6 (wdB Z)) ++ arrS Z n3 5 (wdC Z)) (wPl Z L) (by simp only [List.append_assoc, List.append_nil, List.nil_append]) rfl (rmT_m (by decide) (by decide)) (Nat.le_of_ble_eq_true rfl) rfl rfl ?_
      rintro _ _ ⟨rfl, y4, c4, b4, rfl, h4⟩
      refine J_st (.ref n21 :: []) rfl ?_
      refine J_ws (((((arrS Z n1 6 (wdA Z) ++ arrS Z n2 6 (wdB Z)) ++ arrS Z n3 5 (wdC Z)) ++ wSo Z n21 y4 (nI (((([] : List Nat) ++ cTx 37) ++ dTx (nuQ n q)) ++ cTx 30).length)) ++ arrB Z y4 c4 b4) ++ wPl Z L) (by simp only [List.append_assoc, List.append_nil, List.nil_append]) ?_
      refine J_room (rc2 := 2 + (10 + 2 * tcN fu)) (rs2 := 2004 + (16953 + 2 * tsN fu)) (by omega) (by omega) ?_
      refine J_cVb (As := []) (st := []) (rc2 := 10 + 2 * tcN fu) (rs2 := 16953 + 2 * tsN fu) (w0 := ((wSo Z n21 y4 (nI (((([] : List Nat) ++ cTx 37) ++ dTx (nuQ n q)) ++ cTx 30).length)) ++ arrB Z y4 c4 b4)) (q0 := 0) C iX10_text_496 lm_X10_103 yc_J4_toString_0e30d yv_J4_toString_0e30d (c_J4_toString_0e30d (T := (((([] : List Nat) ++ cTx 37) ++ dTx (nuQ n q)) ++ cTx 30)) h4 (by simp only [List.length_append, List.length_nil] at hl9 ⊢; omega)) rfl rfl rfl ((arrS Z n1 6 (wdA Z) ++ arrS Z n2 6 (wdB Z)) ++ arrS Z n3 5 (wdC Z)) (wPl Z L) (by simp only [List.append_assoc, List.append_nil, List.nil_append]) rfl (rmT_m (by decide) (by decide)) (Nat.le_of_ble_eq_true rfl) rfl rfl ?_
      rintro _ _ ⟨s5, t5, b5, rfl, rfl, h5⟩
      refine J_st (.ref s5 :: []) rfl ?_
      refine J_ws (((((((arrS Z n1 6 (wdA Z) ++ arrS Z n2 6 (wdB Z)) ++ arrS Z n3 5 (wdC Z)) ++ wTo Z s5 t5) ++ wSo Z n21 y4 (nI (((([] : List Nat) ++ cTx 37) ++ dTx (nuQ n q)) ++ cTx 30).length)) ++ arrB Z y4 c4 b4) ++ arrB Z t5 ((((([] : List Nat) ++ cTx 37) ++ dTx (nuQ n q)) ++ cTx 30).length) b5) ++ wPl Z L) (by simp only [List.append_assoc, List.append_nil, List.nil_append]) ?_
      refine J_drop [] ((arrS Z n1 6 (wdA Z) ++ arrS Z n2 6 (wdB Z)) ++ arrS Z n3 5 (wdC Z)) ((((wTo Z s5 t5 ++ wSo Z n21 y4 (nI (((([] : List Nat) ++ cTx 37) ++ dTx (nuQ n q)) ++ cTx 30).length)) ++ arrB Z y4 c4 b4) ++ arrB Z t5 ((((([] : List Nat) ++ cTx 37) ++ dTx (nuQ n q)) ++ cTx 30).length) b5) ++ wPl Z L) (by simp only [List.append_assoc, List.append_nil, List.nil_append]) ?_
      refine J_ws ((((wTo Z s5 t5 ++ wSo Z n21 y4 (nI (((([] : List Nat) ++ cTx 37) ++ dTx (nuQ n q)) ++ cTx 30).length)) ++ arrB Z y4 c4 b4) ++ arrB Z t5 ((((([] : List Nat) ++ cTx 37) ++ dTx (nuQ n q)) ++ cTx 30).length) b5) ++ wPl Z L) (by simp only [List.append_assoc, List.append_nil, List.nil_append]) ?_
      refine J_drop (wTo Z s5 t5) ((wSo Z n21 y4 (nI (((([] : List Nat) ++ cTx 37) ++ dTx (nuQ n q)) ++ cTx 30).length)) ++ arrB Z y4 c4 b4) ((arrB Z t5 ((((([] : List Nat) ++ cTx 37) ++ dTx (nuQ n q)) ++ cTx 30).length) b5) ++ wPl Z L) (by simp only [List.append_assoc, List.append_nil, List.nil_append]) ?_
      refine J_ws ((wTo Z s5 t5 ++ arrB Z t5 ((((([] : List Nat) ++ cTx 37) ++ dTx (nuQ n q)) ++ cTx 30).length) b5) ++ wPl Z L) (by simp only [List.append_assoc, List.append_nil, List.nil_append]) ?_
      refine J_perm ((wTo Z s5 t5 ++ wPl Z L) ++ arrB Z t5 ((((([] : List Nat) ++ cTx 37) ++ dTx (nuQ n q)) ++ cTx 30).length) b5) (sw2 _ _ _) ?_
      refine J_perm ((wPl Z L ++ wTo Z s5 t5) ++ arrB Z t5 ((((([] : List Nat) ++ cTx 37) ++ dTx (nuQ n q)) ++ cTx 30).length) b5) (List.perm_append_comm.append_right _) ?_
      exact J_aret C E iX10_text_499 (Or.inl ⟨_, rfl⟩) (Or.inr ⟨s5, _, _, rfl, rfl, h5⟩)
    · rw [hk] at hi9 hbA hbB
      obtain ⟨xa, rfl, hxa⟩ := hbA rfl
      have htx : txN n (fu + 1) q = (((([] : List Nat) ++ cTx 38) ++ (txN n fu (kdA q))) ++ cTx 39) := by rw [txN, tx1, if_neg (by omega), if_neg (by omega), if_neg (by omega), if_neg (by omega), if_neg (by omega), if_neg (by omega), if_neg (by omega), if_neg (by omega), if_neg (by omega), if_neg (by omega), if_neg (by omega), if_neg (by omega), if_neg (by omega), if_neg (by omega), if_neg (by omega), if_neg (by omega), if_neg (by omega), if_neg (by omega), if_neg (by omega), if_neg (by omega), if_pos hk]
      rw [htx] at hl9 ⊢
      refine J_aload_n C iX10_text_102 rfl rfl ?_
      refine J_get (.int 29) ((((arrS Z n1 6 (wdA Z) ++ arrS Z n2 6 (wdB Z)) ++ arrS Z n3 5 (wdC Z))).length + i) C iX10_text_103 gf_X10_7 (mid_at (A := ((arrS Z n1 6 (wdA Z) ++ arrS Z n2 6 (wdB Z)) ++ arrS Z n3 5 (wdC Z))) (M := wPl Z L) (B := []) (by simp only [List.append_assoc, List.append_nil, List.nil_append]) (wPl_at hi9)) rfl ?_
      refine J_ifne 132 C iX10_text_106 rfl (fun h106 => ?_) (fun h106 => absurd h106 (by decide))
      refine J_aload_n C iX10_text_132 rfl rfl ?_
      refine J_get (.int 29) ((((arrS Z n1 6 (wdA Z) ++ arrS Z n2 6 (wdB Z)) ++ arrS Z n3 5 (wdC Z))).length + i) C iX10_text_133 gf_X10_7 (mid_at (A := ((arrS Z n1 6 (wdA Z) ++ arrS Z n2 6 (wdB Z)) ++ arrS Z n3 5 (wdC Z))) (M := wPl Z L) (B := []) (by simp only [List.append_assoc, List.append_nil, List.nil_append]) (wPl_at hi9)) rfl ?_
      refine J_iconst 3 C iX10_text_136 rfl ?_
      refine J_icmpge 147 C iX10_text_137 rfl (fun h137 => ?_) (fun h137 => absurd (by decide) h137)
      refine J_aload_n C iX10_text_147 rfl rfl ?_
      refine J_get (.int 29) ((((arrS Z n1 6 (wdA Z) ++ arrS Z n2 6 (wdB Z)) ++ arrS Z n3 5 (wdC Z))).length + i) C iX10_text_148 gf_X10_7 (mid_at (A := ((arrS Z n1 6 (wdA Z) ++ arrS Z n2 6 (wdB Z)) ++ arrS Z n3 5 (wdC Z))) (M := wPl Z L) (B := []) (by simp only [List.append_assoc, List.append_nil, List.nil_append]) (wPl_at hi9)) rfl ?_
      refine J_bipush 6 C iX10_text_151 rfl ?_
      refine J_icmpge 188 C iX10_text_153 rfl (fun h153 => ?_) (fun h153 => absurd (by decide) h153)
      refine J_aload_n C iX10_text_188 rfl rfl ?_
      refine J_get (.int 29) ((((arrS Z n1 6 (wdA Z) ++ arrS Z n2 6 (wdB Z)) ++ arrS Z n3 5 (wdC Z))).length + i) C iX10_text_189 gf_X10_7 (mid_at (A := ((arrS Z n1 6 (wdA Z) ++ arrS Z n2 6 (wdB Z)) ++ arrS Z n3 5 (wdC Z))) (M := wPl Z L) (B := []) (by simp only [List.append_assoc, List.append_nil, List.nil_append]) (wPl_at hi9)) rfl ?_
      refine J_bipush 6 C iX10_text_192 rfl ?_
      refine J_icmpne 228 C iX10_text_194 rfl (fun h194 => ?_) (fun h194 => absurd h194 (by decide))
      refine J_aload_n C iX10_text_228 rfl rfl ?_
      refine J_get (.int 29) ((((arrS Z n1 6 (wdA Z) ++ arrS Z n2 6 (wdB Z)) ++ arrS Z n3 5 (wdC Z))).length + i) C iX10_text_229 gf_X10_7 (mid_at (A := ((arrS Z n1 6 (wdA Z) ++ arrS Z n2 6 (wdB Z)) ++ arrS Z n3 5 (wdC Z))) (M := wPl Z L) (B := []) (by simp only [List.append_assoc, List.append_nil, List.nil_append]) (wPl_at hi9)) rfl ?_
      refine J_bipush 11 C iX10_text_232 rfl ?_
      refine J_icmpge 300 C iX10_text_234 rfl (fun h234 => ?_) (fun h234 => absurd (by decide) h234)
      refine J_aload_n C iX10_text_300 rfl rfl ?_
      refine J_get (.int 29) ((((arrS Z n1 6 (wdA Z) ++ arrS Z n2 6 (wdB Z)) ++ arrS Z n3 5 (wdC Z))).length + i) C iX10_text_301 gf_X10_7 (mid_at (A := ((arrS Z n1 6 (wdA Z) ++ arrS Z n2 6 (wdB Z)) ++ arrS Z n3 5 (wdC Z))) (M := wPl Z L) (B := []) (by simp only [List.append_assoc, List.append_nil, List.nil_append]) (wPl_at hi9)) rfl ?_
      refine J_bipush 13 C iX10_text_304 rfl ?_
      refine J_icmpge 362 C iX10_text_306 rfl (fun h306 => ?_) (fun h306 => absurd (by decide) h306)
      refine J_aload_n C iX10_text_362 rfl rfl ?_
      refine J_get (.int 29) ((((arrS Z n1 6 (wdA Z) ++ arrS Z n2 6 (wdB Z)) ++ arrS Z n3 5 (wdC Z))).length + i) C iX10_text_363 gf_X10_7 (mid_at (A := ((arrS Z n1 6 (wdA Z) ++ arrS Z n2 6 (wdB Z)) ++ arrS Z n3 5 (wdC Z))) (M := wPl Z L) (B := []) (by simp only [List.append_assoc, List.append_nil, List.nil_append]) (wPl_at hi9)) rfl ?_
      refine J_bipush 25 C iX10_text_366 rfl ?_
      refine J_icmpge 414 C iX10_text_368 rfl (fun h368 => ?_) (fun h368 => absurd (by decide) h368)
      refine J_aload_n C iX10_text_414 rfl rfl ?_
      refine J_get (.int 29) ((((arrS Z n1 6 (wdA Z) ++ arrS Z n2 6 (wdB Z)) ++ arrS Z n3 5 (wdC Z))).length + i) C iX10_text_415 gf_X10_7 (mid_at (A := ((arrS Z n1 6 (wdA Z) ++ arrS Z n2 6 (wdB Z)) ++ arrS Z n3 5 (wdC Z))) (M := wPl Z L) (B := []) (by simp only [List.append_assoc, List.append_nil, List.nil_append]) (wPl_at hi9)) rfl ?_
      refine J_bipush 25 C iX10_text_418 rfl ?_
      refine J_icmpne 463 C iX10_text_420 rfl (fun h420 => ?_) (fun h420 => absurd h420 (by decide))
      refine J_aload_n C iX10_text_463 rfl rfl ?_
      refine J_get (.int 29) ((((arrS Z n1 6 (wdA Z) ++ arrS Z n2 6 (wdB Z)) ++ arrS Z n3 5 (wdC Z))).length + i) C iX10_text_464 gf_X10_7 (mid_at (A := ((arrS Z n1 6 (wdA Z) ++ arrS Z n2 6 (wdB Z)) ++ arrS Z n3 5 (wdC Z))) (M := wPl Z L) (B := []) (by simp only [List.append_assoc, List.append_nil, List.nil_append]) (wPl_at hi9)) rfl ?_
      refine J_bipush 26 C iX10_text_467 rfl ?_
      refine J_icmpne 500 C iX10_text_469 rfl (fun h469 => ?_) (fun h469 => absurd h469 (by decide))
      refine J_aload_n C iX10_text_500 rfl rfl ?_
      refine J_get (.int 29) ((((arrS Z n1 6 (wdA Z) ++ arrS Z n2 6 (wdB Z)) ++ arrS Z n3 5 (wdC Z))).length + i) C iX10_text_501 gf_X10_7 (mid_at (A := ((arrS Z n1 6 (wdA Z) ++ arrS Z n2 6 (wdB Z)) ++ arrS Z n3 5 (wdC Z))) (M := wPl Z L) (B := []) (by simp only [List.append_assoc, List.append_nil, List.nil_append]) (wPl_at hi9)) rfl ?_
      refine J_bipush 29 C iX10_text_504 rfl ?_
      refine J_icmpne 542 C iX10_text_506 rfl (fun h506 => absurd (by decide) h506) (fun h506 => ?_)
      refine J_room (rc2 := 1 + (16 + 2 * tcN fu)) (rs2 := 4 + (30979 + 2 * tsN fu)) (by omega) (by omega) ?_
      refine J_new (ci := 11) [.null, .int 0, .int 0, .int 0] tyJ4 C iX10_text_509 rfl lay_J4 tyJ4_ok (tsg_in (i := 1410) (by decide +kernel) rfl) (tsg_in (i := 1411) (by decide +kernel) rfl) (tsg_in (i := 45) (by decide +kernel) rfl) df_J4 (fun n22 => ?_)
      refine J_ws ((((arrS Z n1 6 (wdA Z) ++ arrS Z n2 6 (wdB Z)) ++ arrS Z n3 5 (wdC Z)) ++ wPl Z L) ++ wS0 Z n22) rfl ?_
      refine J_perm ((((arrS Z n1 6 (wdA Z) ++ arrS Z n2 6 (wdB Z)) ++ arrS Z n3 5 (wdC Z)) ++ wS0 Z n22) ++ wPl Z L) (sw2 _ _ _) ?_
      refine J_dup C iX10_text_512 rfl ?_
      refine J_room (rc2 := 1 + (15 + 2 * tcN fu)) (rs2 := 16 + (30963 + 2 * tsN fu)) (by omega) (by omega) ?_
      refine J_cIb (As := []) (st := .ref n22 :: []) (rc2 := 15 + 2 * tcN fu) (rs2 := 30963 + 2 * tsN fu) (w0 := (wS0 Z n22)) C iX10_text_513 lm_X10_95 yc_J4_init_da8c8 yi_J4_init_da8c8 c_J4_init_da8c8 ((arrS Z n1 6 (wdA Z) ++ arrS Z n2 6 (wdB Z)) ++ arrS Z n3 5 (wdC Z)) (wPl Z L) (by simp only [List.append_assoc, List.append_nil, List.nil_append]) rfl (rmT_m (by decide) (by decide)) (Nat.le_of_ble_eq_true rfl) rfl rfl ?_
      rintro _ _ ⟨rfl, q1, rfl⟩
      refine J_st (.ref n22 :: []) rfl ?_
      refine J_ws (((((arrS Z n1 6 (wdA Z) ++ arrS Z n2 6 (wdB Z)) ++ arrS Z n3 5 (wdC Z)) ++ wSo Z n22 q1 0) ++ arrB Z q1 16 (fun _ => 0)) ++ wPl Z L) (by simp only [List.append_assoc, List.append_nil, List.nil_append]) ?_
      refine J_ldcS 38 C iX10_text_516 rfl ?_
      refine J_room (rc2 := 1 + (14 + 2 * tcN fu)) (rs2 := 4002 + (26961 + 2 * tsN fu)) (by omega) (by omega) ?_
      refine J_cVb (As := [.ref (zsk Z 38)]) (st := []) (rc2 := 14 + 2 * tcN fu) (rs2 := 26961 + 2 * tsN fu) (w0 := (wSo Z n22 q1 0 ++ arrB Z q1 16 (fun _ => 0))) (q0 := 0) C iX10_text_518 lm_X10_96 yc_J4_append_15ec4 yv_J4_append_15ec4 (c_J4_append_C (T := ([] : List Nat)) (i := 38) sb_new (by decide) (by simp only [List.length_append, List.length_nil] at hl9 ⊢; omega)) rfl rfl rfl ((arrS Z n1 6 (wdA Z) ++ arrS Z n2 6 (wdB Z)) ++ arrS Z n3 5 (wdC Z)) (wPl Z L) (by simp only [List.append_assoc, List.append_nil, List.nil_append]) rfl (rmT_m (by decide) (by decide)) (Nat.le_of_ble_eq_true rfl) rfl rfl ?_
      rintro _ _ ⟨rfl, y2, c2, b2, rfl, h2⟩
      refine J_st (.ref n22 :: []) rfl ?_
      refine J_ws (((((arrS Z n1 6 (wdA Z) ++ arrS Z n2 6 (wdB Z)) ++ arrS Z n3 5 (wdC Z)) ++ wSo Z n22 y2 (nI (([] : List Nat) ++ cTx 38).length)) ++ arrB Z y2 c2 b2) ++ wPl Z L) (by simp only [List.append_assoc, List.append_nil, List.nil_append]) ?_
      refine J_aload_n C iX10_text_521 rfl rfl ?_
      refine J_get (.ref xa) ((((((arrS Z n1 6 (wdA Z) ++ arrS Z n2 6 (wdB Z)) ++ arrS Z n3 5 (wdC Z)) ++ wSo Z n22 y2 (nI (([] : List Nat) ++ cTx 38).length)) ++ arrB Z y2 c2 b2)).length + i) C iX10_text_522 gf_X10_36 (mid_at (A := ((((arrS Z n1 6 (wdA Z) ++ arrS Z n2 6 (wdB Z)) ++ arrS Z n3 5 (wdC Z)) ++ wSo Z n22 y2 (nI (([] : List Nat) ++ cTx 38).length)) ++ arrB Z y2 c2 b2)) (M := wPl Z L) (B := []) (by simp only [List.append_assoc, List.append_nil, List.nil_append]) (wPl_at hi9)) rfl ?_
      refine J_alt (ι := Nat × Nat × (Nat → Int32)) (P := fun i9 => SbT ((([] : List Nat) ++ cTx 38) ++ txN n fu (kdA q)) i9.2.1 i9.2.2) (13 + 1 * tcN fu) (22959 + 1 * tsN fu) 531 (fun _ => [(3, .ref n3), (2, .ref n2), (1, .ref n1), (0, .ref a)]) (fun _ => .ref n22 :: []) (fun i9 => (((((arrS Z n1 6 (wdA Z) ++ arrS Z n2 6 (wdB Z)) ++ arrS Z n3 5 (wdC Z)) ++ wSo Z n22 i9.1 (nI ((([] : List Nat) ++ cTx 38) ++ txN n fu (kdA q)).length)) ++ arrB Z i9.1 i9.2.1 i9.2.2) ++ wPl Z L)) (fun i9 hi9_ => ?_) (fun hk531_3 => ?_)
      · obtain ⟨z3, k3, m3⟩ := i9
        have g3 : SbT ((([] : List Nat) ++ cTx 38) ++ txN n fu (kdA q)) k3 m3 := hi9_
        refine J_ws (((((arrS Z n1 6 (wdA Z) ++ arrS Z n2 6 (wdB Z)) ++ arrS Z n3 5 (wdC Z)) ++ wSo Z n22 z3 (nI ((([] : List Nat) ++ cTx 38) ++ txN n fu (kdA q)).length)) ++ arrB Z z3 k3 m3) ++ wPl Z L) rfl ?_
        refine J_ldcS 39 C iX10_text_531 rfl ?_
        refine J_room (rc2 := 1 + (12 + 1 * tcN fu)) (rs2 := 4002 + (18957 + 1 * tsN fu)) (by omega) (by omega) ?_
        refine J_cVb (As := [.ref (zsk Z 39)]) (st := []) (rc2 := 12 + 1 * tcN fu) (rs2 := 18957 + 1 * tsN fu) (w0 := ((wSo Z n22 z3 (nI ((([] : List Nat) ++ cTx 38) ++ txN n fu (kdA q)).length)) ++ arrB Z z3 k3 m3)) (q0 := 0) C iX10_text_533 lm_X10_96 yc_J4_append_15ec4 yv_J4_append_15ec4 (c_J4_append_C (T := ((([] : List Nat) ++ cTx 38) ++ txN n fu (kdA q))) (i := 39) g3 (by decide) (by simp only [List.length_append, List.length_nil] at hl9 ⊢; omega)) rfl rfl rfl ((arrS Z n1 6 (wdA Z) ++ arrS Z n2 6 (wdB Z)) ++ arrS Z n3 5 (wdC Z)) (wPl Z L) (by simp only [List.append_assoc, List.append_nil, List.nil_append]) rfl (rmT_m (by decide) (by decide)) (Nat.le_of_ble_eq_true rfl) rfl rfl ?_
        rintro _ _ ⟨rfl, y4, c4, b4, rfl, h4⟩
        refine J_st (.ref n22 :: []) rfl ?_
        refine J_ws (((((arrS Z n1 6 (wdA Z) ++ arrS Z n2 6 (wdB Z)) ++ arrS Z n3 5 (wdC Z)) ++ wSo Z n22 y4 (nI (((([] : List Nat) ++ cTx 38) ++ txN n fu (kdA q)) ++ cTx 39).length)) ++ arrB Z y4 c4 b4) ++ wPl Z L) (by simp only [List.append_assoc, List.append_nil, List.nil_append]) ?_
        refine J_room (rc2 := 2 + (10 + 1 * tcN fu)) (rs2 := 2004 + (16953 + 1 * tsN fu)) (by omega) (by omega) ?_
        refine J_cVb (As := []) (st := []) (rc2 := 10 + 1 * tcN fu) (rs2 := 16953 + 1 * tsN fu) (w0 := ((wSo Z n22 y4 (nI (((([] : List Nat) ++ cTx 38) ++ txN n fu (kdA q)) ++ cTx 39).length)) ++ arrB Z y4 c4 b4)) (q0 := 0) C iX10_text_536 lm_X10_103 yc_J4_toString_0e30d yv_J4_toString_0e30d (c_J4_toString_0e30d (T := (((([] : List Nat) ++ cTx 38) ++ txN n fu (kdA q)) ++ cTx 39)) h4 (by simp only [List.length_append, List.length_nil] at hl9 ⊢; omega)) rfl rfl rfl ((arrS Z n1 6 (wdA Z) ++ arrS Z n2 6 (wdB Z)) ++ arrS Z n3 5 (wdC Z)) (wPl Z L) (by simp only [List.append_assoc, List.append_nil, List.nil_append]) rfl (rmT_m (by decide) (by decide)) (Nat.le_of_ble_eq_true rfl) rfl rfl ?_
        rintro _ _ ⟨s5, t5, b5, rfl, rfl, h5⟩
        refine J_st (.ref s5 :: []) rfl ?_
        refine J_ws (((((((arrS Z n1 6 (wdA Z) ++ arrS Z n2 6 (wdB Z)) ++ arrS Z n3 5 (wdC Z)) ++ wTo Z s5 t5) ++ wSo Z n22 y4 (nI (((([] : List Nat) ++ cTx 38) ++ txN n fu (kdA q)) ++ cTx 39).length)) ++ arrB Z y4 c4 b4) ++ arrB Z t5 ((((([] : List Nat) ++ cTx 38) ++ txN n fu (kdA q)) ++ cTx 39).length) b5) ++ wPl Z L) (by simp only [List.append_assoc, List.append_nil, List.nil_append]) ?_
        refine J_goto 611 C iX10_text_539 rfl ?_
        refine J_drop [] ((arrS Z n1 6 (wdA Z) ++ arrS Z n2 6 (wdB Z)) ++ arrS Z n3 5 (wdC Z)) ((((wTo Z s5 t5 ++ wSo Z n22 y4 (nI (((([] : List Nat) ++ cTx 38) ++ txN n fu (kdA q)) ++ cTx 39).length)) ++ arrB Z y4 c4 b4) ++ arrB Z t5 ((((([] : List Nat) ++ cTx 38) ++ txN n fu (kdA q)) ++ cTx 39).length) b5) ++ wPl Z L) (by simp only [List.append_assoc, List.append_nil, List.nil_append]) ?_
        refine J_ws ((((wTo Z s5 t5 ++ wSo Z n22 y4 (nI (((([] : List Nat) ++ cTx 38) ++ txN n fu (kdA q)) ++ cTx 39).length)) ++ arrB Z y4 c4 b4) ++ arrB Z t5 ((((([] : List Nat) ++ cTx 38) ++ txN n fu (kdA q)) ++ cTx 39).length) b5) ++ wPl Z L) (by simp only [List.append_assoc, List.append_nil, List.nil_append]) ?_
        refine J_drop (wTo Z s5 t5) ((wSo Z n22 y4 (nI (((([] : List Nat) ++ cTx 38) ++ txN n fu (kdA q)) ++ cTx 39).length)) ++ arrB Z y4 c4 b4) ((arrB Z t5 ((((([] : List Nat) ++ cTx 38) ++ txN n fu (kdA q)) ++ cTx 39).length) b5) ++ wPl Z L) (by simp only [List.append_assoc, List.append_nil, List.nil_append]) ?_
        refine J_ws ((wTo Z s5 t5 ++ arrB Z t5 ((((([] : List Nat) ++ cTx 38) ++ txN n fu (kdA q)) ++ cTx 39).length) b5) ++ wPl Z L) (by simp only [List.append_assoc, List.append_nil, List.nil_append]) ?_
        refine J_perm ((wTo Z s5 t5 ++ wPl Z L) ++ arrB Z t5 ((((([] : List Nat) ++ cTx 38) ++ txN n fu (kdA q)) ++ cTx 39).length) b5) (sw2 _ _ _) ?_
        refine J_perm ((wPl Z L ++ wTo Z s5 t5) ++ arrB Z t5 ((((([] : List Nat) ++ cTx 38) ++ txN n fu (kdA q)) ++ cTx 39).length) b5) (List.perm_append_comm.append_right _) ?_
        exact J_aret C E iX10_text_611 (Or.inl ⟨_, rfl⟩) (Or.inr ⟨s5, _, _, rfl, rfl, h5⟩)
      · refine J_room (rc2 := (tcN fu) + (14 + 1 * tcN fu)) (rs2 := (tsN fu) + (26961 + 1 * tsN fu)) (by omega) (by omega) ?_
        obtain ⟨j1_, e1_, f1_⟩ := InT.at hxa
        refine J_cVb (As := []) (st := .ref n22 :: []) (rc2 := 14 + 1 * tcN fu) (rs2 := 26961 + 1 * tsN fu) (w0 := wPl Z L) (q0 := j1_) C iX10_text_525 lm_X10_111 yc_X10_text yv_X10_text (ih (q := kdA q) hxa (by simp only [List.length_append] at hl9; omega)) rfl rfl (wPl_at f1_) ((((arrS Z n1 6 (wdA Z) ++ arrS Z n2 6 (wdB Z)) ++ arrS Z n3 5 (wdC Z)) ++ wSo Z n22 y2 (nI (([] : List Nat) ++ cTx 38).length)) ++ arrB Z y2 c2 b2) [] (by simp only [List.append_assoc, List.append_nil, List.nil_append]) rfl (rmT_le (by omega) (by decide)) (Nat.le_of_ble_eq_true rfl) rfl rfl ?_
        rintro _ _ (⟨j3, hj3, rfl, rfl, e3⟩ | ⟨s3, t3, b3, rfl, rfl, e3⟩)
        · refine J_st (.ref (zsk Z j3) :: .ref n22 :: []) rfl ?_
          refine J_ws (((((arrS Z n1 6 (wdA Z) ++ arrS Z n2 6 (wdB Z)) ++ arrS Z n3 5 (wdC Z)) ++ wSo Z n22 y2 (nI (([] : List Nat) ++ cTx 38).length)) ++ arrB Z y2 c2 b2) ++ wPl Z L) (by simp only [List.append_assoc, List.append_nil, List.nil_append]) ?_
          refine J_room (rc2 := 1 + (13 + 1 * tcN fu)) (rs2 := 4002 + (22959 + 1 * tsN fu)) (by omega) (by omega) ?_
          refine J_cVb (As := [.ref (zsk Z j3)]) (st := []) (rc2 := 13 + 1 * tcN fu) (rs2 := 22959 + 1 * tsN fu) (w0 := ((wSo Z n22 y2 (nI (([] : List Nat) ++ cTx 38).length)) ++ arrB Z y2 c2 b2)) (q0 := 0) C iX10_text_528 lm_X10_96 yc_J4_append_15ec4 yv_J4_append_15ec4 (c_J4_append_C (T := (([] : List Nat) ++ cTx 38)) (i := j3) h2 hj3 (by rw [← e3]; simp only [List.length_append, List.length_nil] at hl9 ⊢; omega)) rfl rfl rfl ((arrS Z n1 6 (wdA Z) ++ arrS Z n2 6 (wdB Z)) ++ arrS Z n3 5 (wdC Z)) (wPl Z L) (by simp only [List.append_assoc, List.append_nil, List.nil_append]) rfl (rmT_m (by decide) (by decide)) (Nat.le_of_ble_eq_true rfl) rfl rfl ?_
          rintro _ _ ⟨rfl, y6, c6, b6, rfl, h6⟩
          refine J_st (.ref n22 :: []) rfl ?_
          refine J_ws (((((arrS Z n1 6 (wdA Z) ++ arrS Z n2 6 (wdB Z)) ++ arrS Z n3 5 (wdC Z)) ++ wSo Z n22 y6 (nI ((([] : List Nat) ++ cTx 38) ++ cTx j3).length)) ++ arrB Z y6 c6 b6) ++ wPl Z L) (by simp only [List.append_assoc, List.append_nil, List.nil_append]) ?_
          rw [← e3]
          exact hk531_3 (y6, c6, b6) (by rw [e3]; exact h6)
        · refine J_st (.ref s3 :: .ref n22 :: []) rfl ?_
          refine J_ws (((((((arrS Z n1 6 (wdA Z) ++ arrS Z n2 6 (wdB Z)) ++ arrS Z n3 5 (wdC Z)) ++ wSo Z n22 y2 (nI (([] : List Nat) ++ cTx 38).length)) ++ arrB Z y2 c2 b2) ++ wPl Z L) ++ wTo Z s3 t3) ++ arrB Z t3 ((txN n fu (kdA q)).length) b3) (by simp only [List.append_assoc, List.append_nil, List.nil_append]) ?_
          refine J_perm (((((((arrS Z n1 6 (wdA Z) ++ arrS Z n2 6 (wdB Z)) ++ arrS Z n3 5 (wdC Z)) ++ wSo Z n22 y2 (nI (([] : List Nat) ++ cTx 38).length)) ++ arrB Z y2 c2 b2) ++ wTo Z s3 t3) ++ wPl Z L) ++ arrB Z t3 ((txN n fu (kdA q)).length) b3) ((sw2 _ _ _).append_right _) ?_
          refine J_perm (((((((arrS Z n1 6 (wdA Z) ++ arrS Z n2 6 (wdB Z)) ++ arrS Z n3 5 (wdC Z)) ++ wSo Z n22 y2 (nI (([] : List Nat) ++ cTx 38).length)) ++ arrB Z y2 c2 b2) ++ wTo Z s3 t3) ++ arrB Z t3 ((txN n fu (kdA q)).length) b3) ++ wPl Z L) (sw2 _ _ _) ?_
          refine J_room (rc2 := 1 + (13 + 1 * tcN fu)) (rs2 := 4002 + (22959 + 1 * tsN fu)) (by omega) (by omega) ?_
          refine J_cVb (As := [.ref s3]) (st := []) (rc2 := 13 + 1 * tcN fu) (rs2 := 22959 + 1 * tsN fu) (w0 := ((((wSo Z n22 y2 (nI (([] : List Nat) ++ cTx 38).length)) ++ arrB Z y2 c2 b2) ++ wTo Z s3 t3) ++ arrB Z t3 ((txN n fu (kdA q)).length) b3)) (q0 := 0) C iX10_text_528 lm_X10_96 yc_J4_append_15ec4 yv_J4_append_15ec4 (c_J4_append_D (T := (([] : List Nat) ++ cTx 38)) (S := txN n fu (kdA q)) h2 e3 (by simp only [List.length_append, List.length_nil] at hl9 ⊢; omega)) rfl rfl rfl ((arrS Z n1 6 (wdA Z) ++ arrS Z n2 6 (wdB Z)) ++ arrS Z n3 5 (wdC Z)) (wPl Z L) (by simp only [List.append_assoc, List.append_nil, List.nil_append]) rfl (rmT_m (by decide) (by decide)) (Nat.le_of_ble_eq_true rfl) rfl rfl ?_
          rintro _ _ ⟨rfl, y7, c7, b7, rfl, h7⟩
          refine J_st (.ref n22 :: []) rfl ?_
          refine J_ws (((((((arrS Z n1 6 (wdA Z) ++ arrS Z n2 6 (wdB Z)) ++ arrS Z n3 5 (wdC Z)) ++ wSo Z n22 y7 (nI ((([] : List Nat) ++ cTx 38) ++ txN n fu (kdA q)).length)) ++ arrB Z y7 c7 b7) ++ wTo Z s3 t3) ++ arrB Z t3 ((txN n fu (kdA q)).length) b3) ++ wPl Z L) (by simp only [List.append_assoc, List.append_nil, List.nil_append]) ?_
          refine J_drop ((((arrS Z n1 6 (wdA Z) ++ arrS Z n2 6 (wdB Z)) ++ arrS Z n3 5 (wdC Z)) ++ wSo Z n22 y7 (nI ((([] : List Nat) ++ cTx 38) ++ txN n fu (kdA q)).length)) ++ arrB Z y7 c7 b7) (wTo Z s3 t3 ++ arrB Z t3 ((txN n fu (kdA q)).length) b3) (wPl Z L) (by simp only [List.append_assoc, List.append_nil, List.nil_append]) ?_
          refine J_ws (((((arrS Z n1 6 (wdA Z) ++ arrS Z n2 6 (wdB Z)) ++ arrS Z n3 5 (wdC Z)) ++ wSo Z n22 y7 (nI ((([] : List Nat) ++ cTx 38) ++ txN n fu (kdA q)).length)) ++ arrB Z y7 c7 b7) ++ wPl Z L) (by simp only [List.append_assoc, List.append_nil, List.nil_append]) ?_
          exact hk531_3 (y7, c7, b7) h7
    · rw [hk] at hi9 hbA hbB
      obtain ⟨xa, rfl, hxa⟩ := hbA rfl
      obtain ⟨xb, rfl, hxb⟩ := hbB rfl
      have htx : txN n (fu + 1) q = (((((((([] : List Nat) ++ cTx 40) ++ (txN n fu (kdA q))) ++ cTx 39) ++ cTx 41) ++ cTx 40) ++ (txN n fu (kdB q))) ++ cTx 39) := by rw [txN, tx1, if_neg (by omega), if_neg (by omega), if_neg (by omega), if_neg (by omega), if_neg (by omega), if_neg (by omega), if_neg (by omega), if_neg (by omega), if_neg (by omega), if_neg (by omega), if_neg (by omega), if_neg (by omega), if_neg (by omega), if_neg (by omega), if_neg (by omega), if_neg (by omega), if_neg (by omega), if_neg (by omega), if_neg (by omega), if_neg (by omega), if_neg (by omega), if_pos hk]
      rw [htx] at hl9 ⊢
      refine J_aload_n C iX10_text_102 rfl rfl ?_
      refine J_get (.int 30) ((((arrS Z n1 6 (wdA Z) ++ arrS Z n2 6 (wdB Z)) ++ arrS Z n3 5 (wdC Z))).length + i) C iX10_text_103 gf_X10_7 (mid_at (A := ((arrS Z n1 6 (wdA Z) ++ arrS Z n2 6 (wdB Z)) ++ arrS Z n3 5 (wdC Z))) (M := wPl Z L) (B := []) (by simp only [List.append_assoc, List.append_nil, List.nil_append]) (wPl_at hi9)) rfl ?_
      refine J_ifne 132 C iX10_text_106 rfl (fun h106 => ?_) (fun h106 => absurd h106 (by decide))
      refine J_aload_n C iX10_text_132 rfl rfl ?_
      refine J_get (.int 30) ((((arrS Z n1 6 (wdA Z) ++ arrS Z n2 6 (wdB Z)) ++ arrS Z n3 5 (wdC Z))).length + i) C iX10_text_133 gf_X10_7 (mid_at (A := ((arrS Z n1 6 (wdA Z) ++ arrS Z n2 6 (wdB Z)) ++ arrS Z n3 5 (wdC Z))) (M := wPl Z L) (B := []) (by simp only [List.append_assoc, List.append_nil, List.nil_append]) (wPl_at hi9)) rfl ?_
      refine J_iconst 3 C iX10_text_136 rfl ?_
      refine J_icmpge 147 C iX10_text_137 rfl (fun h137 => ?_) (fun h137 => absurd (by decide) h137)
      refine J_aload_n C iX10_text_147 rfl rfl ?_
      refine J_get (.int 30) ((((arrS Z n1 6 (wdA Z) ++ arrS Z n2 6 (wdB Z)) ++ arrS Z n3 5 (wdC Z))).length + i) C iX10_text_148 gf_X10_7 (mid_at (A := ((arrS Z n1 6 (wdA Z) ++ arrS Z n2 6 (wdB Z)) ++ arrS Z n3 5 (wdC Z))) (M := wPl Z L) (B := []) (by simp only [List.append_assoc, List.append_nil, List.nil_append]) (wPl_at hi9)) rfl ?_
      refine J_bipush 6 C iX10_text_151 rfl ?_
      refine J_icmpge 188 C iX10_text_153 rfl (fun h153 => ?_) (fun h153 => absurd (by decide) h153)
      refine J_aload_n C iX10_text_188 rfl rfl ?_
      refine J_get (.int 30) ((((arrS Z n1 6 (wdA Z) ++ arrS Z n2 6 (wdB Z)) ++ arrS Z n3 5 (wdC Z))).length + i) C iX10_text_189 gf_X10_7 (mid_at (A := ((arrS Z n1 6 (wdA Z) ++ arrS Z n2 6 (wdB Z)) ++ arrS Z n3 5 (wdC Z))) (M := wPl Z L) (B := []) (by simp only [List.append_assoc, List.append_nil, List.nil_append]) (wPl_at hi9)) rfl ?_
      refine J_bipush 6 C iX10_text_192 rfl ?_
      refine J_icmpne 228 C iX10_text_194 rfl (fun h194 => ?_) (fun h194 => absurd h194 (by decide))
      refine J_aload_n C iX10_text_228 rfl rfl ?_
      refine J_get (.int 30) ((((arrS Z n1 6 (wdA Z) ++ arrS Z n2 6 (wdB Z)) ++ arrS Z n3 5 (wdC Z))).length + i) C iX10_text_229 gf_X10_7 (mid_at (A := ((arrS Z n1 6 (wdA Z) ++ arrS Z n2 6 (wdB Z)) ++ arrS Z n3 5 (wdC Z))) (M := wPl Z L) (B := []) (by simp only [List.append_assoc, List.append_nil, List.nil_append]) (wPl_at hi9)) rfl ?_
      refine J_bipush 11 C iX10_text_232 rfl ?_
      refine J_icmpge 300 C iX10_text_234 rfl (fun h234 => ?_) (fun h234 => absurd (by decide) h234)
      refine J_aload_n C iX10_text_300 rfl rfl ?_
      refine J_get (.int 30) ((((arrS Z n1 6 (wdA Z) ++ arrS Z n2 6 (wdB Z)) ++ arrS Z n3 5 (wdC Z))).length + i) C iX10_text_301 gf_X10_7 (mid_at (A := ((arrS Z n1 6 (wdA Z) ++ arrS Z n2 6 (wdB Z)) ++ arrS Z n3 5 (wdC Z))) (M := wPl Z L) (B := []) (by simp only [List.append_assoc, List.append_nil, List.nil_append]) (wPl_at hi9)) rfl ?_
      refine J_bipush 13 C iX10_text_304 rfl ?_
      refine J_icmpge 362 C iX10_text_306 rfl (fun h306 => ?_) (fun h306 => absurd (by decide) h306)
      refine J_aload_n C iX10_text_362 rfl rfl ?_
      refine J_get (.int 30) ((((arrS Z n1 6 (wdA Z) ++ arrS Z n2 6 (wdB Z)) ++ arrS Z n3 5 (wdC Z))).length + i) C iX10_text_363 gf_X10_7 (mid_at (A := ((arrS Z n1 6 (wdA Z) ++ arrS Z n2 6 (wdB Z)) ++ arrS Z n3 5 (wdC Z))) (M := wPl Z L) (B := []) (by simp only [List.append_assoc, List.append_nil, List.nil_append]) (wPl_at hi9)) rfl ?_
      refine J_bipush 25 C iX10_text_366 rfl ?_
      refine J_icmpge 414 C iX10_text_368 rfl (fun h368 => ?_) (fun h368 => absurd (by decide) h368)
      refine J_aload_n C iX10_text_414 rfl rfl ?_
      refine J_get (.int 30) ((((arrS Z n1 6 (wdA Z) ++ arrS Z n2 6 (wdB Z)) ++ arrS Z n3 5 (wdC Z))).length + i) C iX10_text_415 gf_X10_7 (mid_at (A := ((arrS Z n1 6 (wdA Z) ++ arrS Z n2 6 (wdB Z)) ++ arrS Z n3 5 (wdC Z))) (M := wPl Z L) (B := []) (by simp only [List.append_assoc, List.append_nil, List.nil_append]) (wPl_at hi9)) rfl ?_
      refine J_bipush 25 C iX10_text_418 rfl ?_
      refine J_icmpne 463 C iX10_text_420 rfl (fun h420 => ?_) (fun h420 => absurd h420 (by decide))
      refine J_aload_n C iX10_text_463 rfl rfl ?_
      refine J_get (.int 30) ((((arrS Z n1 6 (wdA Z) ++ arrS Z n2 6 (wdB Z)) ++ arrS Z n3 5 (wdC Z))).length + i) C iX10_text_464 gf_X10_7 (mid_at (A := ((arrS Z n1 6 (wdA Z) ++ arrS Z n2 6 (wdB Z)) ++ arrS Z n3 5 (wdC Z))) (M := wPl Z L) (B := []) (by simp only [List.append_assoc, List.append_nil, List.nil_append]) (wPl_at hi9)) rfl ?_
      refine J_bipush 26 C iX10_text_467 rfl ?_
      refine J_icmpne 500 C iX10_text_469 rfl (fun h469 => ?_) (fun h469 => absurd h469 (by decide))
      refine J_aload_n C iX10_text_500 rfl rfl ?_
      refine J_get (.int 30) ((((arrS Z n1 6 (wdA Z) ++ arrS Z n2 6 (wdB Z)) ++ arrS Z n3 5 (wdC Z))).length + i) C iX10_text_501 gf_X10_7 (mid_at (A := ((arrS Z n1 6 (wdA Z) ++ arrS Z n2 6 (wdB Z)) ++ arrS Z n3 5 (wdC Z))) (M := wPl Z L) (B := []) (by simp only [List.append_assoc, List.append_nil, List.nil_append]) (wPl_at hi9)) rfl ?_
      refine J_bipush 29 C iX10_text_504 rfl ?_
      refine J_icmpne 542 C iX10_text_506 rfl (fun h506 => ?_) (fun h506 => absurd h506 (by decide))
      refine J_room (rc2 := 1 + (16 + 2 * tcN fu)) (rs2 := 4 + (30979 + 2 * tsN fu)) (by omega) (by omega) ?_
      refine J_new (ci := 11) [.null, .int 0, .int 0, .int 0] tyJ4 C iX10_text_542 rfl lay_J4 tyJ4_ok (tsg_in (i := 1410) (by decide +kernel) rfl) (tsg_in (i := 1411) (by decide +kernel) rfl) (tsg_in (i := 45) (by decide +kernel) rfl) df_J4 (fun n23 => ?_)
      refine J_ws ((((arrS Z n1 6 (wdA Z) ++ arrS Z n2 6 (wdB Z)) ++ arrS Z n3 5 (wdC Z)) ++ wPl Z L) ++ wS0 Z n23) rfl ?_
      refine J_perm ((((arrS Z n1 6 (wdA Z) ++ arrS Z n2 6 (wdB Z)) ++ arrS Z n3 5 (wdC Z)) ++ wS0 Z n23) ++ wPl Z L) (sw2 _ _ _) ?_
      refine J_dup C iX10_text_545 rfl ?_
      refine J_room (rc2 := 1 + (15 + 2 * tcN fu)) (rs2 := 16 + (30963 + 2 * tsN fu)) (by omega) (by omega) ?_
      refine J_cIb (As := []) (st := .ref n23 :: []) (rc2 := 15 + 2 * tcN fu) (rs2 := 30963 + 2 * tsN fu) (w0 := (wS0 Z n23)) C iX10_text_546 lm_X10_95 yc_J4_init_da8c8 yi_J4_init_da8c8 c_J4_init_da8c8 ((arrS Z n1 6 (wdA Z) ++ arrS Z n2 6 (wdB Z)) ++ arrS Z n3 5 (wdC Z)) (wPl Z L) (by simp only [List.append_assoc, List.append_nil, List.nil_append]) rfl (rmT_m (by decide) (by decide)) (Nat.le_of_ble_eq_true rfl) rfl rfl ?_
      rintro _ _ ⟨rfl, q1, rfl⟩
      refine J_st (.ref n23 :: []) rfl ?_
      refine J_ws (((((arrS Z n1 6 (wdA Z) ++ arrS Z n2 6 (wdB Z)) ++ arrS Z n3 5 (wdC Z)) ++ wSo Z n23 q1 0) ++ arrB Z q1 16 (fun _ => 0)) ++ wPl Z L) (by simp only [List.append_assoc, List.append_nil, List.nil_append]) ?_
      refine J_ldcS 40 C iX10_text_549 rfl ?_
      refine J_room (rc2 := 1 + (14 + 2 * tcN fu)) (rs2 := 4002 + (26961 + 2 * tsN fu)) (by omega) (by omega) ?_
      refine J_cVb (As := [.ref (zsk Z 40)]) (st := []) (rc2 := 14 + 2 * tcN fu) (rs2 := 26961 + 2 * tsN fu) (w0 := (wSo Z n23 q1 0 ++ arrB Z q1 16 (fun _ => 0))) (q0 := 0) C iX10_text_551 lm_X10_96 yc_J4_append_15ec4 yv_J4_append_15ec4 (c_J4_append_C (T := ([] : List Nat)) (i := 40) sb_new (by decide) (by simp only [List.length_append, List.length_nil] at hl9 ⊢; omega)) rfl rfl rfl ((arrS Z n1 6 (wdA Z) ++ arrS Z n2 6 (wdB Z)) ++ arrS Z n3 5 (wdC Z)) (wPl Z L) (by simp only [List.append_assoc, List.append_nil, List.nil_append]) rfl (rmT_m (by decide) (by decide)) (Nat.le_of_ble_eq_true rfl) rfl rfl ?_
      rintro _ _ ⟨rfl, y2, c2, b2, rfl, h2⟩
      refine J_st (.ref n23 :: []) rfl ?_
      refine J_ws (((((arrS Z n1 6 (wdA Z) ++ arrS Z n2 6 (wdB Z)) ++ arrS Z n3 5 (wdC Z)) ++ wSo Z n23 y2 (nI (([] : List Nat) ++ cTx 40).length)) ++ arrB Z y2 c2 b2) ++ wPl Z L) (by simp only [List.append_assoc, List.append_nil, List.nil_append]) ?_
      refine J_aload_n C iX10_text_554 rfl rfl ?_
      refine J_get (.ref xa) ((((((arrS Z n1 6 (wdA Z) ++ arrS Z n2 6 (wdB Z)) ++ arrS Z n3 5 (wdC Z)) ++ wSo Z n23 y2 (nI (([] : List Nat) ++ cTx 40).length)) ++ arrB Z y2 c2 b2)).length + i) C iX10_text_555 gf_X10_36 (mid_at (A := ((((arrS Z n1 6 (wdA Z) ++ arrS Z n2 6 (wdB Z)) ++ arrS Z n3 5 (wdC Z)) ++ wSo Z n23 y2 (nI (([] : List Nat) ++ cTx 40).length)) ++ arrB Z y2 c2 b2)) (M := wPl Z L) (B := []) (by simp only [List.append_assoc, List.append_nil, List.nil_append]) (wPl_at hi9)) rfl ?_
      refine J_alt (ι := Nat × Nat × (Nat → Int32)) (P := fun i9 => SbT ((([] : List Nat) ++ cTx 40) ++ txN n fu (kdA q)) i9.2.1 i9.2.2) (13 + 1 * tcN fu) (22959 + 1 * tsN fu) 564 (fun _ => [(3, .ref n3), (2, .ref n2), (1, .ref n1), (0, .ref a)]) (fun _ => .ref n23 :: []) (fun i9 => (((((arrS Z n1 6 (wdA Z) ++ arrS Z n2 6 (wdB Z)) ++ arrS Z n3 5 (wdC Z)) ++ wSo Z n23 i9.1 (nI ((([] : List Nat) ++ cTx 40) ++ txN n fu (kdA q)).length)) ++ arrB Z i9.1 i9.2.1 i9.2.2) ++ wPl Z L)) (fun i9 hi9_ => ?_) (fun hk564_3 => ?_)
      · obtain ⟨z3, k3, m3⟩ := i9
        have g3 : SbT ((([] : List Nat) ++ cTx 40) ++ txN n fu (kdA q)) k3 m3 := hi9_
        refine J_ws (((((arrS Z n1 6 (wdA Z) ++ arrS Z n2 6 (wdB Z)) ++ arrS Z n3 5 (wdC Z)) ++ wSo Z n23 z3 (nI ((([] : List Nat) ++ cTx 40) ++ txN n fu (kdA q)).length)) ++ arrB Z z3 k3 m3) ++ wPl Z L) rfl ?_
        refine J_ldcS 39 C iX10_text_564 rfl ?_
        refine J_room (rc2 := 1 + (12 + 1 * tcN fu)) (rs2 := 4002 + (18957 + 1 * tsN fu)) (by omega) (by omega) ?_
        refine J_cVb (As := [.ref (zsk Z 39)]) (st := []) (rc2 := 12 + 1 * tcN fu) (rs2 := 18957 + 1 * tsN fu) (w0 := ((wSo Z n23 z3 (nI ((([] : List Nat) ++ cTx 40) ++ txN n fu (kdA q)).length)) ++ arrB Z z3 k3 m3)) (q0 := 0) C iX10_text_566 lm_X10_96 yc_J4_append_15ec4 yv_J4_append_15ec4 (c_J4_append_C (T := ((([] : List Nat) ++ cTx 40) ++ txN n fu (kdA q))) (i := 39) g3 (by decide) (by simp only [List.length_append, List.length_nil] at hl9 ⊢; omega)) rfl rfl rfl ((arrS Z n1 6 (wdA Z) ++ arrS Z n2 6 (wdB Z)) ++ arrS Z n3 5 (wdC Z)) (wPl Z L) (by simp only [List.append_assoc, List.append_nil, List.nil_append]) rfl (rmT_m (by decide) (by decide)) (Nat.le_of_ble_eq_true rfl) rfl rfl ?_
        rintro _ _ ⟨rfl, y4, c4, b4, rfl, h4⟩
        refine J_st (.ref n23 :: []) rfl ?_
        refine J_ws (((((arrS Z n1 6 (wdA Z) ++ arrS Z n2 6 (wdB Z)) ++ arrS Z n3 5 (wdC Z)) ++ wSo Z n23 y4 (nI (((([] : List Nat) ++ cTx 40) ++ txN n fu (kdA q)) ++ cTx 39).length)) ++ arrB Z y4 c4 b4) ++ wPl Z L) (by simp only [List.append_assoc, List.append_nil, List.nil_append]) ?_
        refine J_aload_n C iX10_text_569 rfl rfl ?_
        refine J_get (.int 30) ((((((arrS Z n1 6 (wdA Z) ++ arrS Z n2 6 (wdB Z)) ++ arrS Z n3 5 (wdC Z)) ++ wSo Z n23 y4 (nI (((([] : List Nat) ++ cTx 40) ++ txN n fu (kdA q)) ++ cTx 39).length)) ++ arrB Z y4 c4 b4)).length + i) C iX10_text_570 gf_X10_7 (mid_at (A := ((((arrS Z n1 6 (wdA Z) ++ arrS Z n2 6 (wdB Z)) ++ arrS Z n3 5 (wdC Z)) ++ wSo Z n23 y4 (nI (((([] : List Nat) ++ cTx 40) ++ txN n fu (kdA q)) ++ cTx 39).length)) ++ arrB Z y4 c4 b4)) (M := wPl Z L) (B := []) (by simp only [List.append_assoc, List.append_nil, List.nil_append]) (wPl_at hi9)) rfl ?_
        refine J_bipush 30 C iX10_text_573 rfl ?_
        refine J_icmpne 583 C iX10_text_575 rfl (fun h575 => absurd (by decide) h575) (fun h575 => ?_)
        refine J_ldcS 41 C iX10_text_578 rfl ?_
        refine J_goto 585 C iX10_text_580 rfl ?_
        refine J_room (rc2 := 1 + (11 + 1 * tcN fu)) (rs2 := 4002 + (14955 + 1 * tsN fu)) (by omega) (by omega) ?_
        refine J_cVb (As := [.ref (zsk Z 41)]) (st := []) (rc2 := 11 + 1 * tcN fu) (rs2 := 14955 + 1 * tsN fu) (w0 := ((wSo Z n23 y4 (nI (((([] : List Nat) ++ cTx 40) ++ txN n fu (kdA q)) ++ cTx 39).length)) ++ arrB Z y4 c4 b4)) (q0 := 0) C iX10_text_585 lm_X10_96 yc_J4_append_15ec4 yv_J4_append_15ec4 (c_J4_append_C (T := (((([] : List Nat) ++ cTx 40) ++ txN n fu (kdA q)) ++ cTx 39)) (i := 41) h4 (by decide) (by simp only [List.length_append, List.length_nil] at hl9 ⊢; omega)) rfl rfl rfl ((arrS Z n1 6 (wdA Z) ++ arrS Z n2 6 (wdB Z)) ++ arrS Z n3 5 (wdC Z)) (wPl Z L) (by simp only [List.append_assoc, List.append_nil, List.nil_append]) rfl (rmT_m (by decide) (by decide)) (Nat.le_of_ble_eq_true rfl) rfl rfl ?_
        rintro _ _ ⟨rfl, y5, c5, b5, rfl, h5⟩
        refine J_st (.ref n23 :: []) rfl ?_
        refine J_ws (((((arrS Z n1 6 (wdA Z) ++ arrS Z n2 6 (wdB Z)) ++ arrS Z n3 5 (wdC Z)) ++ wSo Z n23 y5 (nI ((((([] : List Nat) ++ cTx 40) ++ txN n fu (kdA q)) ++ cTx 39) ++ cTx 41).length)) ++ arrB Z y5 c5 b5) ++ wPl Z L) (by simp only [List.append_assoc, List.append_nil, List.nil_append]) ?_
        refine J_ldcS 40 C iX10_text_588 rfl ?_
        refine J_room (rc2 := 1 + (10 + 1 * tcN fu)) (rs2 := 4002 + (10953 + 1 * tsN fu)) (by omega) (by omega) ?_
        refine J_cVb (As := [.ref (zsk Z 40)]) (st := []) (rc2 := 10 + 1 * tcN fu) (rs2 := 10953 + 1 * tsN fu) (w0 := ((wSo Z n23 y5 (nI ((((([] : List Nat) ++ cTx 40) ++ txN n fu (kdA q)) ++ cTx 39) ++ cTx 41).length)) ++ arrB Z y5 c5 b5)) (q0 := 0) C iX10_text_590 lm_X10_96 yc_J4_append_15ec4 yv_J4_append_15ec4 (c_J4_append_C (T := ((((([] : List Nat) ++ cTx 40) ++ txN n fu (kdA q)) ++ cTx 39) ++ cTx 41)) (i := 40) h5 (by decide) (by simp only [List.length_append, List.length_nil] at hl9 ⊢; omega)) rfl rfl rfl ((arrS Z n1 6 (wdA Z) ++ arrS Z n2 6 (wdB Z)) ++ arrS Z n3 5 (wdC Z)) (wPl Z L) (by simp only [List.append_assoc, List.append_nil, List.nil_append]) rfl (rmT_m (by decide) (by decide)) (Nat.le_of_ble_eq_true rfl) rfl rfl ?_
        rintro _ _ ⟨rfl, y6, c6, b6, rfl, h6⟩
        refine J_st (.ref n23 :: []) rfl ?_
        refine J_ws (((((arrS Z n1 6 (wdA Z) ++ arrS Z n2 6 (wdB Z)) ++ arrS Z n3 5 (wdC Z)) ++ wSo Z n23 y6 (nI (((((([] : List Nat) ++ cTx 40) ++ txN n fu (kdA q)) ++ cTx 39) ++ cTx 41) ++ cTx 40).length)) ++ arrB Z y6 c6 b6) ++ wPl Z L) (by simp only [List.append_assoc, List.append_nil, List.nil_append]) ?_
        refine J_aload_n C iX10_text_593 rfl rfl ?_
        refine J_get (.ref xb) ((((((arrS Z n1 6 (wdA Z) ++ arrS Z n2 6 (wdB Z)) ++ arrS Z n3 5 (wdC Z)) ++ wSo Z n23 y6 (nI (((((([] : List Nat) ++ cTx 40) ++ txN n fu (kdA q)) ++ cTx 39) ++ cTx 41) ++ cTx 40).length)) ++ arrB Z y6 c6 b6)).length + i) C iX10_text_594 gf_X10_51 (mid_at (A := ((((arrS Z n1 6 (wdA Z) ++ arrS Z n2 6 (wdB Z)) ++ arrS Z n3 5 (wdC Z)) ++ wSo Z n23 y6 (nI (((((([] : List Nat) ++ cTx 40) ++ txN n fu (kdA q)) ++ cTx 39) ++ cTx 41) ++ cTx 40).length)) ++ arrB Z y6 c6 b6)) (M := wPl Z L) (B := []) (by simp only [List.append_assoc, List.append_nil, List.nil_append]) (wPl_at hi9)) rfl ?_
        refine J_alt (ι := Nat × Nat × (Nat → Int32)) (P := fun i9 => SbT ((((((([] : List Nat) ++ cTx 40) ++ txN n fu (kdA q)) ++ cTx 39) ++ cTx 41) ++ cTx 40) ++ txN n fu (kdB q)) i9.2.1 i9.2.2) (9 + 0 * tcN fu) (6951 + 0 * tsN fu) 603 (fun _ => [(3, .ref n3), (2, .ref n2), (1, .ref n1), (0, .ref a)]) (fun _ => .ref n23 :: []) (fun i9 => (((((arrS Z n1 6 (wdA Z) ++ arrS Z n2 6 (wdB Z)) ++ arrS Z n3 5 (wdC Z)) ++ wSo Z n23 i9.1 (nI ((((((([] : List Nat) ++ cTx 40) ++ txN n fu (kdA q)) ++ cTx 39) ++ cTx 41) ++ cTx 40) ++ txN n fu (kdB q)).length)) ++ arrB Z i9.1 i9.2.1 i9.2.2) ++ wPl Z L)) (fun i9 hi9_ => ?_) (fun hk603_7 => ?_)
        · obtain ⟨z7, k7, m7⟩ := i9
          have g7 : SbT ((((((([] : List Nat) ++ cTx 40) ++ txN n fu (kdA q)) ++ cTx 39) ++ cTx 41) ++ cTx 40) ++ txN n fu (kdB q)) k7 m7 := hi9_
          refine J_ws (((((arrS Z n1 6 (wdA Z) ++ arrS Z n2 6 (wdB Z)) ++ arrS Z n3 5 (wdC Z)) ++ wSo Z n23 z7 (nI ((((((([] : List Nat) ++ cTx 40) ++ txN n fu (kdA q)) ++ cTx 39) ++ cTx 41) ++ cTx 40) ++ txN n fu (kdB q)).length)) ++ arrB Z z7 k7 m7) ++ wPl Z L) rfl ?_
          refine J_ldcS 39 C iX10_text_603 rfl ?_
          refine J_room (rc2 := 1 + (8 + 0 * tcN fu)) (rs2 := 4002 + (2949 + 0 * tsN fu)) (by omega) (by omega) ?_
          refine J_cVb (As := [.ref (zsk Z 39)]) (st := []) (rc2 := 8 + 0 * tcN fu) (rs2 := 2949 + 0 * tsN fu) (w0 := ((wSo Z n23 z7 (nI ((((((([] : List Nat) ++ cTx 40) ++ txN n fu (kdA q)) ++ cTx 39) ++ cTx 41) ++ cTx 40) ++ txN n fu (kdB q)).length)) ++ arrB Z z7 k7 m7)) (q0 := 0) C iX10_text_605 lm_X10_96 yc_J4_append_15ec4 yv_J4_append_15ec4 (c_J4_append_C (T := ((((((([] : List Nat) ++ cTx 40) ++ txN n fu (kdA q)) ++ cTx 39) ++ cTx 41) ++ cTx 40) ++ txN n fu (kdB q))) (i := 39) g7 (by decide) (by simp only [List.length_append, List.length_nil] at hl9 ⊢; omega)) rfl rfl rfl ((arrS Z n1 6 (wdA Z) ++ arrS Z n2 6 (wdB Z)) ++ arrS Z n3 5 (wdC Z)) (wPl Z L) (by simp only [List.append_assoc, List.append_nil, List.nil_append]) rfl (rmT_m (by decide) (by decide)) (Nat.le_of_ble_eq_true rfl) rfl rfl ?_
          rintro _ _ ⟨rfl, y8, c8, b8, rfl, h8⟩
          refine J_st (.ref n23 :: []) rfl ?_
          refine J_ws (((((arrS Z n1 6 (wdA Z) ++ arrS Z n2 6 (wdB Z)) ++ arrS Z n3 5 (wdC Z)) ++ wSo Z n23 y8 (nI (((((((([] : List Nat) ++ cTx 40) ++ txN n fu (kdA q)) ++ cTx 39) ++ cTx 41) ++ cTx 40) ++ txN n fu (kdB q)) ++ cTx 39).length)) ++ arrB Z y8 c8 b8) ++ wPl Z L) (by simp only [List.append_assoc, List.append_nil, List.nil_append]) ?_
          refine J_room (rc2 := 2 + (6 + 0 * tcN fu)) (rs2 := 2004 + (945 + 0 * tsN fu)) (by omega) (by omega) ?_
          refine J_cVb (As := []) (st := []) (rc2 := 6 + 0 * tcN fu) (rs2 := 945 + 0 * tsN fu) (w0 := ((wSo Z n23 y8 (nI (((((((([] : List Nat) ++ cTx 40) ++ txN n fu (kdA q)) ++ cTx 39) ++ cTx 41) ++ cTx 40) ++ txN n fu (kdB q)) ++ cTx 39).length)) ++ arrB Z y8 c8 b8)) (q0 := 0) C iX10_text_608 lm_X10_103 yc_J4_toString_0e30d yv_J4_toString_0e30d (c_J4_toString_0e30d (T := (((((((([] : List Nat) ++ cTx 40) ++ txN n fu (kdA q)) ++ cTx 39) ++ cTx 41) ++ cTx 40) ++ txN n fu (kdB q)) ++ cTx 39)) h8 (by simp only [List.length_append, List.length_nil] at hl9 ⊢; omega)) rfl rfl rfl ((arrS Z n1 6 (wdA Z) ++ arrS Z n2 6 (wdB Z)) ++ arrS Z n3 5 (wdC Z)) (wPl Z L) (by simp only [List.append_assoc, List.append_nil, List.nil_append]) rfl (rmT_m (by decide) (by decide)) (Nat.le_of_ble_eq_true rfl) rfl rfl ?_
          rintro _ _ ⟨s9, t9, b9, rfl, rfl, h9⟩
          refine J_st (.ref s9 :: []) rfl ?_
          refine J_ws (((((((arrS Z n1 6 (wdA Z) ++ arrS Z n2 6 (wdB Z)) ++ arrS Z n3 5 (wdC Z)) ++ wTo Z s9 t9) ++ wSo Z n23 y8 (nI (((((((([] : List Nat) ++ cTx 40) ++ txN n fu (kdA q)) ++ cTx 39) ++ cTx 41) ++ cTx 40) ++ txN n fu (kdB q)) ++ cTx 39).length)) ++ arrB Z y8 c8 b8) ++ arrB Z t9 ((((((((([] : List Nat) ++ cTx 40) ++ txN n fu (kdA q)) ++ cTx 39) ++ cTx 41) ++ cTx 40) ++ txN n fu (kdB q)) ++ cTx 39).length) b9) ++ wPl Z L) (by simp only [List.append_assoc, List.append_nil, List.nil_append]) ?_
          refine J_drop [] ((arrS Z n1 6 (wdA Z) ++ arrS Z n2 6 (wdB Z)) ++ arrS Z n3 5 (wdC Z)) ((((wTo Z s9 t9 ++ wSo Z n23 y8 (nI (((((((([] : List Nat) ++ cTx 40) ++ txN n fu (kdA q)) ++ cTx 39) ++ cTx 41) ++ cTx 40) ++ txN n fu (kdB q)) ++ cTx 39).length)) ++ arrB Z y8 c8 b8) ++ arrB Z t9 ((((((((([] : List Nat) ++ cTx 40) ++ txN n fu (kdA q)) ++ cTx 39) ++ cTx 41) ++ cTx 40) ++ txN n fu (kdB q)) ++ cTx 39).length) b9) ++ wPl Z L) (by simp only [List.append_assoc, List.append_nil, List.nil_append]) ?_
          refine J_ws ((((wTo Z s9 t9 ++ wSo Z n23 y8 (nI (((((((([] : List Nat) ++ cTx 40) ++ txN n fu (kdA q)) ++ cTx 39) ++ cTx 41) ++ cTx 40) ++ txN n fu (kdB q)) ++ cTx 39).length)) ++ arrB Z y8 c8 b8) ++ arrB Z t9 ((((((((([] : List Nat) ++ cTx 40) ++ txN n fu (kdA q)) ++ cTx 39) ++ cTx 41) ++ cTx 40) ++ txN n fu (kdB q)) ++ cTx 39).length) b9) ++ wPl Z L) (by simp only [List.append_assoc, List.append_nil, List.nil_append]) ?_
          refine J_drop (wTo Z s9 t9) ((wSo Z n23 y8 (nI (((((((([] : List Nat) ++ cTx 40) ++ txN n fu (kdA q)) ++ cTx 39) ++ cTx 41) ++ cTx 40) ++ txN n fu (kdB q)) ++ cTx 39).length)) ++ arrB Z y8 c8 b8) ((arrB Z t9 ((((((((([] : List Nat) ++ cTx 40) ++ txN n fu (kdA q)) ++ cTx 39) ++ cTx 41) ++ cTx 40) ++ txN n fu (kdB q)) ++ cTx 39).length) b9) ++ wPl Z L) (by simp only [List.append_assoc, List.append_nil, List.nil_append]) ?_
          refine J_ws ((wTo Z s9 t9 ++ arrB Z t9 ((((((((([] : List Nat) ++ cTx 40) ++ txN n fu (kdA q)) ++ cTx 39) ++ cTx 41) ++ cTx 40) ++ txN n fu (kdB q)) ++ cTx 39).length) b9) ++ wPl Z L) (by simp only [List.append_assoc, List.append_nil, List.nil_append]) ?_
          refine J_perm ((wTo Z s9 t9 ++ wPl Z L) ++ arrB Z t9 ((((((((([] : List Nat) ++ cTx 40) ++ txN n fu (kdA q)) ++ cTx 39) ++ cTx 41) ++ cTx 40) ++ txN n fu (kdB q)) ++ cTx 39).length) b9) (sw2 _ _ _) ?_
          refine J_perm ((wPl Z L ++ wTo Z s9 t9) ++ arrB Z t9 ((((((((([] : List Nat) ++ cTx 40) ++ txN n fu (kdA q)) ++ cTx 39) ++ cTx 41) ++ cTx 40) ++ txN n fu (kdB q)) ++ cTx 39).length) b9) (List.perm_append_comm.append_right _) ?_
          exact J_aret C E iX10_text_611 (Or.inl ⟨_, rfl⟩) (Or.inr ⟨s9, _, _, rfl, rfl, h9⟩)
        · refine J_room (rc2 := (tcN fu) + (10 + 0 * tcN fu)) (rs2 := (tsN fu) + (10953 + 0 * tsN fu)) (by omega) (by omega) ?_
          obtain ⟨j1_, e1_, f1_⟩ := InT.at hxb
          refine J_cVb (As := []) (st := .ref n23 :: []) (rc2 := 10 + 0 * tcN fu) (rs2 := 10953 + 0 * tsN fu) (w0 := wPl Z L) (q0 := j1_) C iX10_text_597 lm_X10_111 yc_X10_text yv_X10_text (ih (q := kdB q) hxb (by simp only [List.length_append] at hl9; omega)) rfl rfl (wPl_at f1_) ((((arrS Z n1 6 (wdA Z) ++ arrS Z n2 6 (wdB Z)) ++ arrS Z n3 5 (wdC Z)) ++ wSo Z n23 y6 (nI (((((([] : List Nat) ++ cTx 40) ++ txN n fu (kdA q)) ++ cTx 39) ++ cTx 41) ++ cTx 40).length)) ++ arrB Z y6 c6 b6) [] (by simp only [List.append_assoc, List.append_nil, List.nil_append]) rfl (rmT_le (by omega) (by decide)) (Nat.le_of_ble_eq_true rfl) rfl rfl ?_
          rintro _ _ (⟨j7, hj7, rfl, rfl, e7⟩ | ⟨s7, t7, b7, rfl, rfl, e7⟩)
          · refine J_st (.ref (zsk Z j7) :: .ref n23 :: []) rfl ?_
            refine J_ws (((((arrS Z n1 6 (wdA Z) ++ arrS Z n2 6 (wdB Z)) ++ arrS Z n3 5 (wdC Z)) ++ wSo Z n23 y6 (nI (((((([] : List Nat) ++ cTx 40) ++ txN n fu (kdA q)) ++ cTx 39) ++ cTx 41) ++ cTx 40).length)) ++ arrB Z y6 c6 b6) ++ wPl Z L) (by simp only [List.append_assoc, List.append_nil, List.nil_append]) ?_
            refine J_room (rc2 := 1 + (9 + 0 * tcN fu)) (rs2 := 4002 + (6951 + 0 * tsN fu)) (by omega) (by omega) ?_
            refine J_cVb (As := [.ref (zsk Z j7)]) (st := []) (rc2 := 9 + 0 * tcN fu) (rs2 := 6951 + 0 * tsN fu) (w0 := ((wSo Z n23 y6 (nI (((((([] : List Nat) ++ cTx 40) ++ txN n fu (kdA q)) ++ cTx 39) ++ cTx 41) ++ cTx 40).length)) ++ arrB Z y6 c6 b6)) (q0 := 0) C iX10_text_600 lm_X10_96 yc_J4_append_15ec4 yv_J4_append_15ec4 (c_J4_append_C (T := (((((([] : List Nat) ++ cTx 40) ++ txN n fu (kdA q)) ++ cTx 39) ++ cTx 41) ++ cTx 40)) (i := j7) h6 hj7 (by rw [← e7]; simp only [List.length_append, List.length_nil] at hl9 ⊢; omega)) rfl rfl rfl ((arrS Z n1 6 (wdA Z) ++ arrS Z n2 6 (wdB Z)) ++ arrS Z n3 5 (wdC Z)) (wPl Z L) (by simp only [List.append_assoc, List.append_nil, List.nil_append]) rfl (rmT_m (by decide) (by decide)) (Nat.le_of_ble_eq_true rfl) rfl rfl ?_
            rintro _ _ ⟨rfl, y10, c10, b10, rfl, h10⟩
            refine J_st (.ref n23 :: []) rfl ?_
            refine J_ws (((((arrS Z n1 6 (wdA Z) ++ arrS Z n2 6 (wdB Z)) ++ arrS Z n3 5 (wdC Z)) ++ wSo Z n23 y10 (nI ((((((([] : List Nat) ++ cTx 40) ++ txN n fu (kdA q)) ++ cTx 39) ++ cTx 41) ++ cTx 40) ++ cTx j7).length)) ++ arrB Z y10 c10 b10) ++ wPl Z L) (by simp only [List.append_assoc, List.append_nil, List.nil_append]) ?_
            rw [← e7]
            exact hk603_7 (y10, c10, b10) (by rw [e7]; exact h10)
          · refine J_st (.ref s7 :: .ref n23 :: []) rfl ?_
            refine J_ws (((((((arrS Z n1 6 (wdA Z) ++ arrS Z n2 6 (wdB Z)) ++ arrS Z n3 5 (wdC Z)) ++ wSo Z n23 y6 (nI (((((([] : List Nat) ++ cTx 40) ++ txN n fu (kdA q)) ++ cTx 39) ++ cTx 41) ++ cTx 40).length)) ++ arrB Z y6 c6 b6) ++ wPl Z L) ++ wTo Z s7 t7) ++ arrB Z t7 ((txN n fu (kdB q)).length) b7) (by simp only [List.append_assoc, List.append_nil, List.nil_append]) ?_
            refine J_perm (((((((arrS Z n1 6 (wdA Z) ++ arrS Z n2 6 (wdB Z)) ++ arrS Z n3 5 (wdC Z)) ++ wSo Z n23 y6 (nI (((((([] : List Nat) ++ cTx 40) ++ txN n fu (kdA q)) ++ cTx 39) ++ cTx 41) ++ cTx 40).length)) ++ arrB Z y6 c6 b6) ++ wTo Z s7 t7) ++ wPl Z L) ++ arrB Z t7 ((txN n fu (kdB q)).length) b7) ((sw2 _ _ _).append_right _) ?_
            refine J_perm (((((((arrS Z n1 6 (wdA Z) ++ arrS Z n2 6 (wdB Z)) ++ arrS Z n3 5 (wdC Z)) ++ wSo Z n23 y6 (nI (((((([] : List Nat) ++ cTx 40) ++ txN n fu (kdA q)) ++ cTx 39) ++ cTx 41) ++ cTx 40).length)) ++ arrB Z y6 c6 b6) ++ wTo Z s7 t7) ++ arrB Z t7 ((txN n fu (kdB q)).length) b7) ++ wPl Z L) (sw2 _ _ _) ?_
            refine J_room (rc2 := 1 + (9 + 0 * tcN fu)) (rs2 := 4002 + (6951 + 0 * tsN fu)) (by omega) (by omega) ?_
            refine J_cVb (As := [.ref s7]) (st := []) (rc2 := 9 + 0 * tcN fu) (rs2 := 6951 + 0 * tsN fu) (w0 := ((((wSo Z n23 y6 (nI (((((([] : List Nat) ++ cTx 40) ++ txN n fu (kdA q)) ++ cTx 39) ++ cTx 41) ++ cTx 40).length)) ++ arrB Z y6 c6 b6) ++ wTo Z s7 t7) ++ arrB Z t7 ((txN n fu (kdB q)).length) b7)) (q0 := 0) C iX10_text_600 lm_X10_96 yc_J4_append_15ec4 yv_J4_append_15ec4 (c_J4_append_D (T := (((((([] : List Nat) ++ cTx 40) ++ txN n fu (kdA q)) ++ cTx 39) ++ cTx 41) ++ cTx 40)) (S := txN n fu (kdB q)) h6 e7 (by simp only [List.length_append, List.length_nil] at hl9 ⊢; omega)) rfl rfl rfl ((arrS Z n1 6 (wdA Z) ++ arrS Z n2 6 (wdB Z)) ++ arrS Z n3 5 (wdC Z)) (wPl Z L) (by simp only [List.append_assoc, List.append_nil, List.nil_append]) rfl (rmT_m (by decide) (by decide)) (Nat.le_of_ble_eq_true rfl) rfl rfl ?_
            rintro _ _ ⟨rfl, y11, c11, b11, rfl, h11⟩
            refine J_st (.ref n23 :: []) rfl ?_
            refine J_ws (((((((arrS Z n1 6 (wdA Z) ++ arrS Z n2 6 (wdB Z)) ++ arrS Z n3 5 (wdC Z)) ++ wSo Z n23 y11 (nI ((((((([] : List Nat) ++ cTx 40) ++ txN n fu (kdA q)) ++ cTx 39) ++ cTx 41) ++ cTx 40) ++ txN n fu (kdB q)).length)) ++ arrB Z y11 c11 b11) ++ wTo Z s7 t7) ++ arrB Z t7 ((txN n fu (kdB q)).length) b7) ++ wPl Z L) (by simp only [List.append_assoc, List.append_nil, List.nil_append]) ?_
            refine J_drop ((((arrS Z n1 6 (wdA Z) ++ arrS Z n2 6 (wdB Z)) ++ arrS Z n3 5 (wdC Z)) ++ wSo Z n23 y11 (nI ((((((([] : List Nat) ++ cTx 40) ++ txN n fu (kdA q)) ++ cTx 39) ++ cTx 41) ++ cTx 40) ++ txN n fu (kdB q)).length)) ++ arrB Z y11 c11 b11) (wTo Z s7 t7 ++ arrB Z t7 ((txN n fu (kdB q)).length) b7) (wPl Z L) (by simp only [List.append_assoc, List.append_nil, List.nil_append]) ?_
            refine J_ws (((((arrS Z n1 6 (wdA Z) ++ arrS Z n2 6 (wdB Z)) ++ arrS Z n3 5 (wdC Z)) ++ wSo Z n23 y11 (nI ((((((([] : List Nat) ++ cTx 40) ++ txN n fu (kdA q)) ++ cTx 39) ++ cTx 41) ++ cTx 40) ++ txN n fu (kdB q)).length)) ++ arrB Z y11 c11 b11) ++ wPl Z L) (by simp only [List.append_assoc, List.append_nil, List.nil_append]) ?_
            exact hk603_7 (y11, c11, b11) h11
      · refine J_room (rc2 := (tcN fu) + (14 + 1 * tcN fu)) (rs2 := (tsN fu) + (26961 + 1 * tsN fu)) (by omega) (by omega) ?_
        obtain ⟨j2_, e2_, f2_⟩ := InT.at hxa
        refine J_cVb (As := []) (st := .ref n23 :: []) (rc2 := 14 + 1 * tcN fu) (rs2 := 26961 + 1 * tsN fu) (w0 := wPl Z L) (q0 := j2_) C iX10_text_558 lm_X10_111 yc_X10_text yv_X10_text (ih (q := kdA q) hxa (by simp only [List.length_append] at hl9; omega)) rfl rfl (wPl_at f2_) ((((arrS Z n1 6 (wdA Z) ++ arrS Z n2 6 (wdB Z)) ++ arrS Z n3 5 (wdC Z)) ++ wSo Z n23 y2 (nI (([] : List Nat) ++ cTx 40).length)) ++ arrB Z y2 c2 b2) [] (by simp only [List.append_assoc, List.append_nil, List.nil_append]) rfl (rmT_le (by omega) (by decide)) (Nat.le_of_ble_eq_true rfl) rfl rfl ?_
        rintro _ _ (⟨j3, hj3, rfl, rfl, e3⟩ | ⟨s3, t3, b3, rfl, rfl, e3⟩)
        · refine J_st (.ref (zsk Z j3) :: .ref n23 :: []) rfl ?_
          refine J_ws (((((arrS Z n1 6 (wdA Z) ++ arrS Z n2 6 (wdB Z)) ++ arrS Z n3 5 (wdC Z)) ++ wSo Z n23 y2 (nI (([] : List Nat) ++ cTx 40).length)) ++ arrB Z y2 c2 b2) ++ wPl Z L) (by simp only [List.append_assoc, List.append_nil, List.nil_append]) ?_
          refine J_room (rc2 := 1 + (13 + 1 * tcN fu)) (rs2 := 4002 + (22959 + 1 * tsN fu)) (by omega) (by omega) ?_
          refine J_cVb (As := [.ref (zsk Z j3)]) (st := []) (rc2 := 13 + 1 * tcN fu) (rs2 := 22959 + 1 * tsN fu) (w0 := ((wSo Z n23 y2 (nI (([] : List Nat) ++ cTx 40).length)) ++ arrB Z y2 c2 b2)) (q0 := 0) C iX10_text_561 lm_X10_96 yc_J4_append_15ec4 yv_J4_append_15ec4 (c_J4_append_C (T := (([] : List Nat) ++ cTx 40)) (i := j3) h2 hj3 (by rw [← e3]; simp only [List.length_append, List.length_nil] at hl9 ⊢; omega)) rfl rfl rfl ((arrS Z n1 6 (wdA Z) ++ arrS Z n2 6 (wdB Z)) ++ arrS Z n3 5 (wdC Z)) (wPl Z L) (by simp only [List.append_assoc, List.append_nil, List.nil_append]) rfl (rmT_m (by decide) (by decide)) (Nat.le_of_ble_eq_true rfl) rfl rfl ?_
          rintro _ _ ⟨rfl, y12, c12, b12, rfl, h12⟩
          refine J_st (.ref n23 :: []) rfl ?_
          refine J_ws (((((arrS Z n1 6 (wdA Z) ++ arrS Z n2 6 (wdB Z)) ++ arrS Z n3 5 (wdC Z)) ++ wSo Z n23 y12 (nI ((([] : List Nat) ++ cTx 40) ++ cTx j3).length)) ++ arrB Z y12 c12 b12) ++ wPl Z L) (by simp only [List.append_assoc, List.append_nil, List.nil_append]) ?_
          rw [← e3]
          exact hk564_3 (y12, c12, b12) (by rw [e3]; exact h12)
        · refine J_st (.ref s3 :: .ref n23 :: []) rfl ?_
          refine J_ws (((((((arrS Z n1 6 (wdA Z) ++ arrS Z n2 6 (wdB Z)) ++ arrS Z n3 5 (wdC Z)) ++ wSo Z n23 y2 (nI (([] : List Nat) ++ cTx 40).length)) ++ arrB Z y2 c2 b2) ++ wPl Z L) ++ wTo Z s3 t3) ++ arrB Z t3 ((txN n fu (kdA q)).length) b3) (by simp only [List.append_assoc, List.append_nil, List.nil_append]) ?_
          refine J_perm (((((((arrS Z n1 6 (wdA Z) ++ arrS Z n2 6 (wdB Z)) ++ arrS Z n3 5 (wdC Z)) ++ wSo Z n23 y2 (nI (([] : List Nat) ++ cTx 40).length)) ++ arrB Z y2 c2 b2) ++ wTo Z s3 t3) ++ wPl Z L) ++ arrB Z t3 ((txN n fu (kdA q)).length) b3) ((sw2 _ _ _).append_right _) ?_
          refine J_perm (((((((arrS Z n1 6 (wdA Z) ++ arrS Z n2 6 (wdB Z)) ++ arrS Z n3 5 (wdC Z)) ++ wSo Z n23 y2 (nI (([] : List Nat) ++ cTx 40).length)) ++ arrB Z y2 c2 b2) ++ wTo Z s3 t3) ++ arrB Z t3 ((txN n fu (kdA q)).length) b3) ++ wPl Z L) (sw2 _ _ _) ?_
          refine J_room (rc2 := 1 + (13 + 1 * tcN fu)) (rs2 := 4002 + (22959 + 1 * tsN fu)) (by omega) (by omega) ?_
          refine J_cVb (As := [.ref s3]) (st := []) (rc2 := 13 + 1 * tcN fu) (rs2 := 22959 + 1 * tsN fu) (w0 := ((((wSo Z n23 y2 (nI (([] : List Nat) ++ cTx 40).length)) ++ arrB Z y2 c2 b2) ++ wTo Z s3 t3) ++ arrB Z t3 ((txN n fu (kdA q)).length) b3)) (q0 := 0) C iX10_text_561 lm_X10_96 yc_J4_append_15ec4 yv_J4_append_15ec4 (c_J4_append_D (T := (([] : List Nat) ++ cTx 40)) (S := txN n fu (kdA q)) h2 e3 (by simp only [List.length_append, List.length_nil] at hl9 ⊢; omega)) rfl rfl rfl ((arrS Z n1 6 (wdA Z) ++ arrS Z n2 6 (wdB Z)) ++ arrS Z n3 5 (wdC Z)) (wPl Z L) (by simp only [List.append_assoc, List.append_nil, List.nil_append]) rfl (rmT_m (by decide) (by decide)) (Nat.le_of_ble_eq_true rfl) rfl rfl ?_
          rintro _ _ ⟨rfl, y13, c13, b13, rfl, h13⟩
          refine J_st (.ref n23 :: []) rfl ?_
          refine J_ws (((((((arrS Z n1 6 (wdA Z) ++ arrS Z n2 6 (wdB Z)) ++ arrS Z n3 5 (wdC Z)) ++ wSo Z n23 y13 (nI ((([] : List Nat) ++ cTx 40) ++ txN n fu (kdA q)).length)) ++ arrB Z y13 c13 b13) ++ wTo Z s3 t3) ++ arrB Z t3 ((txN n fu (kdA q)).length) b3) ++ wPl Z L) (by simp only [List.append_assoc, List.append_nil, List.nil_append]) ?_
          refine J_drop ((((arrS Z n1 6 (wdA Z) ++ arrS Z n2 6 (wdB Z)) ++ arrS Z n3 5 (wdC Z)) ++ wSo Z n23 y13 (nI ((([] : List Nat) ++ cTx 40) ++ txN n fu (kdA q)).length)) ++ arrB Z y13 c13 b13) (wTo Z s3 t3 ++ arrB Z t3 ((txN n fu (kdA q)).length) b3) (wPl Z L) (by simp only [List.append_assoc, List.append_nil, List.nil_append]) ?_
          refine J_ws (((((arrS Z n1 6 (wdA Z) ++ arrS Z n2 6 (wdB Z)) ++ arrS Z n3 5 (wdC Z)) ++ wSo Z n23 y13 (nI ((([] : List Nat) ++ cTx 40) ++ txN n fu (kdA q)).length)) ++ arrB Z y13 c13 b13) ++ wPl Z L) (by simp only [List.append_assoc, List.append_nil, List.nil_append]) ?_
          exact hk564_3 (y13, c13, b13) h13
    · rw [hk] at hi9 hbA hbB
      obtain ⟨xa, rfl, hxa⟩ := hbA rfl
      obtain ⟨xb, rfl, hxb⟩ := hbB rfl
      have htx : txN n (fu + 1) q = (((((((([] : List Nat) ++ cTx 40) ++ (txN n fu (kdA q))) ++ cTx 39) ++ cTx 42) ++ cTx 40) ++ (txN n fu (kdB q))) ++ cTx 39) := by rw [txN, tx1, if_neg (by omega), if_neg (by omega), if_neg (by omega), if_neg (by omega), if_neg (by omega), if_neg (by omega), if_neg (by omega), if_neg (by omega), if_neg (by omega), if_neg (by omega), if_neg (by omega), if_neg (by omega), if_neg (by omega), if_neg (by omega), if_neg (by omega), if_neg (by omega), if_neg (by omega), if_neg (by omega), if_neg (by omega), if_neg (by omega), if_neg (by omega), if_neg (by omega)]
      rw [htx] at hl9 ⊢
      refine J_aload_n C iX10_text_102 rfl rfl ?_
      refine J_get (.int 31) ((((arrS Z n1 6 (wdA Z) ++ arrS Z n2 6 (wdB Z)) ++ arrS Z n3 5 (wdC Z))).length + i) C iX10_text_103 gf_X10_7 (mid_at (A := ((arrS Z n1 6 (wdA Z) ++ arrS Z n2 6 (wdB Z)) ++ arrS Z n3 5 (wdC Z))) (M := wPl Z L) (B := []) (by simp only [List.append_assoc, List.append_nil, List.nil_append]) (wPl_at hi9)) rfl ?_
      refine J_ifne 132 C iX10_text_106 rfl (fun h106 => ?_) (fun h106 => absurd h106 (by decide))
      refine J_aload_n C iX10_text_132 rfl rfl ?_
      refine J_get (.int 31) ((((arrS Z n1 6 (wdA Z) ++ arrS Z n2 6 (wdB Z)) ++ arrS Z n3 5 (wdC Z))).length + i) C iX10_text_133 gf_X10_7 (mid_at (A := ((arrS Z n1 6 (wdA Z) ++ arrS Z n2 6 (wdB Z)) ++ arrS Z n3 5 (wdC Z))) (M := wPl Z L) (B := []) (by simp only [List.append_assoc, List.append_nil, List.nil_append]) (wPl_at hi9)) rfl ?_
      refine J_iconst 3 C iX10_text_136 rfl ?_
      refine J_icmpge 147 C iX10_text_137 rfl (fun h137 => ?_) (fun h137 => absurd (by decide) h137)
      refine J_aload_n C iX10_text_147 rfl rfl ?_
      refine J_get (.int 31) ((((arrS Z n1 6 (wdA Z) ++ arrS Z n2 6 (wdB Z)) ++ arrS Z n3 5 (wdC Z))).length + i) C iX10_text_148 gf_X10_7 (mid_at (A := ((arrS Z n1 6 (wdA Z) ++ arrS Z n2 6 (wdB Z)) ++ arrS Z n3 5 (wdC Z))) (M := wPl Z L) (B := []) (by simp only [List.append_assoc, List.append_nil, List.nil_append]) (wPl_at hi9)) rfl ?_
      refine J_bipush 6 C iX10_text_151 rfl ?_
      refine J_icmpge 188 C iX10_text_153 rfl (fun h153 => ?_) (fun h153 => absurd (by decide) h153)
      refine J_aload_n C iX10_text_188 rfl rfl ?_
      refine J_get (.int 31) ((((arrS Z n1 6 (wdA Z) ++ arrS Z n2 6 (wdB Z)) ++ arrS Z n3 5 (wdC Z))).length + i) C iX10_text_189 gf_X10_7 (mid_at (A := ((arrS Z n1 6 (wdA Z) ++ arrS Z n2 6 (wdB Z)) ++ arrS Z n3 5 (wdC Z))) (M := wPl Z L) (B := []) (by simp only [List.append_assoc, List.append_nil, List.nil_append]) (wPl_at hi9)) rfl ?_
      refine J_bipush 6 C iX10_text_192 rfl ?_
      refine J_icmpne 228 C iX10_text_194 rfl (fun h194 => ?_) (fun h194 => absurd h194 (by decide))
      refine J_aload_n C iX10_text_228 rfl rfl ?_
      refine J_get (.int 31) ((((arrS Z n1 6 (wdA Z) ++ arrS Z n2 6 (wdB Z)) ++ arrS Z n3 5 (wdC Z))).length + i) C iX10_text_229 gf_X10_7 (mid_at (A := ((arrS Z n1 6 (wdA Z) ++ arrS Z n2 6 (wdB Z)) ++ arrS Z n3 5 (wdC Z))) (M := wPl Z L) (B := []) (by simp only [List.append_assoc, List.append_nil, List.nil_append]) (wPl_at hi9)) rfl ?_
      refine J_bipush 11 C iX10_text_232 rfl ?_
      refine J_icmpge 300 C iX10_text_234 rfl (fun h234 => ?_) (fun h234 => absurd (by decide) h234)
      refine J_aload_n C iX10_text_300 rfl rfl ?_
      refine J_get (.int 31) ((((arrS Z n1 6 (wdA Z) ++ arrS Z n2 6 (wdB Z)) ++ arrS Z n3 5 (wdC Z))).length + i) C iX10_text_301 gf_X10_7 (mid_at (A := ((arrS Z n1 6 (wdA Z) ++ arrS Z n2 6 (wdB Z)) ++ arrS Z n3 5 (wdC Z))) (M := wPl Z L) (B := []) (by simp only [List.append_assoc, List.append_nil, List.nil_append]) (wPl_at hi9)) rfl ?_
      refine J_bipush 13 C iX10_text_304 rfl ?_
      refine J_icmpge 362 C iX10_text_306 rfl (fun h306 => ?_) (fun h306 => absurd (by decide) h306)
      refine J_aload_n C iX10_text_362 rfl rfl ?_
      refine J_get (.int 31) ((((arrS Z n1 6 (wdA Z) ++ arrS Z n2 6 (wdB Z)) ++ arrS Z n3 5 (wdC Z))).length + i) C iX10_text_363 gf_X10_7 (mid_at (A := ((arrS Z n1 6 (wdA Z) ++ arrS Z n2 6 (wdB Z)) ++ arrS Z n3 5 (wdC Z))) (M := wPl Z L) (B := []) (by simp only [List.append_assoc, List.append_nil, List.nil_append]) (wPl_at hi9)) rfl ?_
      refine J_bipush 25 C iX10_text_366 rfl ?_
      refine J_icmpge 414 C iX10_text_368 rfl (fun h368 => ?_) (fun h368 => absurd (by decide) h368)
      refine J_aload_n C iX10_text_414 rfl rfl ?_
      refine J_get (.int 31) ((((arrS Z n1 6 (wdA Z) ++ arrS Z n2 6 (wdB Z)) ++ arrS Z n3 5 (wdC Z))).length + i) C iX10_text_415 gf_X10_7 (mid_at (A := ((arrS Z n1 6 (wdA Z) ++ arrS Z n2 6 (wdB Z)) ++ arrS Z n3 5 (wdC Z))) (M := wPl Z L) (B := []) (by simp only [List.append_assoc, List.append_nil, List.nil_append]) (wPl_at hi9)) rfl ?_
      refine J_bipush 25 C iX10_text_418 rfl ?_
      refine J_icmpne 463 C iX10_text_420 rfl (fun h420 => ?_) (fun h420 => absurd h420 (by decide))
      refine J_aload_n C iX10_text_463 rfl rfl ?_
      refine J_get (.int 31) ((((arrS Z n1 6 (wdA Z) ++ arrS Z n2 6 (wdB Z)) ++ arrS Z n3 5 (wdC Z))).length + i) C iX10_text_464 gf_X10_7 (mid_at (A := ((arrS Z n1 6 (wdA Z) ++ arrS Z n2 6 (wdB Z)) ++ arrS Z n3 5 (wdC Z))) (M := wPl Z L) (B := []) (by simp only [List.append_assoc, List.append_nil, List.nil_append]) (wPl_at hi9)) rfl ?_
      refine J_bipush 26 C iX10_text_467 rfl ?_
      refine J_icmpne 500 C iX10_text_469 rfl (fun h469 => ?_) (fun h469 => absurd h469 (by decide))
      refine J_aload_n C iX10_text_500 rfl rfl ?_
      refine J_get (.int 31) ((((arrS Z n1 6 (wdA Z) ++ arrS Z n2 6 (wdB Z)) ++ arrS Z n3 5 (wdC Z))).length + i) C iX10_text_501 gf_X10_7 (mid_at (A := ((arrS Z n1 6 (wdA Z) ++ arrS Z n2 6 (wdB Z)) ++ arrS Z n3 5 (wdC Z))) (M := wPl Z L) (B := []) (by simp only [List.append_assoc, List.append_nil, List.nil_append]) (wPl_at hi9)) rfl ?_
      refine J_bipush 29 C iX10_text_504 rfl ?_
      refine J_icmpne 542 C iX10_text_506 rfl (fun h506 => ?_) (fun h506 => absurd h506 (by decide))
      refine J_room (rc2 := 1 + (16 + 2 * tcN fu)) (rs2 := 4 + (30979 + 2 * tsN fu)) (by omega) (by omega) ?_
      refine J_new (ci := 11) [.null, .int 0, .int 0, .int 0] tyJ4 C iX10_text_542 rfl lay_J4 tyJ4_ok (tsg_in (i := 1410) (by decide +kernel) rfl) (tsg_in (i := 1411) (by decide +kernel) rfl) (tsg_in (i := 45) (by decide +kernel) rfl) df_J4 (fun n24 => ?_)
      refine J_ws ((((arrS Z n1 6 (wdA Z) ++ arrS Z n2 6 (wdB Z)) ++ arrS Z n3 5 (wdC Z)) ++ wPl Z L) ++ wS0 Z n24) rfl ?_
      refine J_perm ((((arrS Z n1 6 (wdA Z) ++ arrS Z n2 6 (wdB Z)) ++ arrS Z n3 5 (wdC Z)) ++ wS0 Z n24) ++ wPl Z L) (sw2 _ _ _) ?_
      refine J_dup C iX10_text_545 rfl ?_
      refine J_room (rc2 := 1 + (15 + 2 * tcN fu)) (rs2 := 16 + (30963 + 2 * tsN fu)) (by omega) (by omega) ?_
      refine J_cIb (As := []) (st := .ref n24 :: []) (rc2 := 15 + 2 * tcN fu) (rs2 := 30963 + 2 * tsN fu) (w0 := (wS0 Z n24)) C iX10_text_546 lm_X10_95 yc_J4_init_da8c8 yi_J4_init_da8c8 c_J4_init_da8c8 ((arrS Z n1 6 (wdA Z) ++ arrS Z n2 6 (wdB Z)) ++ arrS Z n3 5 (wdC Z)) (wPl Z L) (by simp only [List.append_assoc, List.append_nil, List.nil_append]) rfl (rmT_m (by decide) (by decide)) (Nat.le_of_ble_eq_true rfl) rfl rfl ?_
      rintro _ _ ⟨rfl, q1, rfl⟩
      refine J_st (.ref n24 :: []) rfl ?_
      refine J_ws (((((arrS Z n1 6 (wdA Z) ++ arrS Z n2 6 (wdB Z)) ++ arrS Z n3 5 (wdC Z)) ++ wSo Z n24 q1 0) ++ arrB Z q1 16 (fun _ => 0)) ++ wPl Z L) (by simp only [List.append_assoc, List.append_nil, List.nil_append]) ?_
      refine J_ldcS 40 C iX10_text_549 rfl ?_
      refine J_room (rc2 := 1 + (14 + 2 * tcN fu)) (rs2 := 4002 + (26961 + 2 * tsN fu)) (by omega) (by omega) ?_
      refine J_cVb (As := [.ref (zsk Z 40)]) (st := []) (rc2 := 14 + 2 * tcN fu) (rs2 := 26961 + 2 * tsN fu) (w0 := (wSo Z n24 q1 0 ++ arrB Z q1 16 (fun _ => 0))) (q0 := 0) C iX10_text_551 lm_X10_96 yc_J4_append_15ec4 yv_J4_append_15ec4 (c_J4_append_C (T := ([] : List Nat)) (i := 40) sb_new (by decide) (by simp only [List.length_append, List.length_nil] at hl9 ⊢; omega)) rfl rfl rfl ((arrS Z n1 6 (wdA Z) ++ arrS Z n2 6 (wdB Z)) ++ arrS Z n3 5 (wdC Z)) (wPl Z L) (by simp only [List.append_assoc, List.append_nil, List.nil_append]) rfl (rmT_m (by decide) (by decide)) (Nat.le_of_ble_eq_true rfl) rfl rfl ?_
      rintro _ _ ⟨rfl, y2, c2, b2, rfl, h2⟩
      refine J_st (.ref n24 :: []) rfl ?_
      refine J_ws (((((arrS Z n1 6 (wdA Z) ++ arrS Z n2 6 (wdB Z)) ++ arrS Z n3 5 (wdC Z)) ++ wSo Z n24 y2 (nI (([] : List Nat) ++ cTx 40).length)) ++ arrB Z y2 c2 b2) ++ wPl Z L) (by simp only [List.append_assoc, List.append_nil, List.nil_append]) ?_
      refine J_aload_n C iX10_text_554 rfl rfl ?_
      refine J_get (.ref xa) ((((((arrS Z n1 6 (wdA Z) ++ arrS Z n2 6 (wdB Z)) ++ arrS Z n3 5 (wdC Z)) ++ wSo Z n24 y2 (nI (([] : List Nat) ++ cTx 40).length)) ++ arrB Z y2 c2 b2)).length + i) C iX10_text_555 gf_X10_36 (mid_at (A := ((((arrS Z n1 6 (wdA Z) ++ arrS Z n2 6 (wdB Z)) ++ arrS Z n3 5 (wdC Z)) ++ wSo Z n24 y2 (nI (([] : List Nat) ++ cTx 40).length)) ++ arrB Z y2 c2 b2)) (M := wPl Z L) (B := []) (by simp only [List.append_assoc, List.append_nil, List.nil_append]) (wPl_at hi9)) rfl ?_
      refine J_alt (ι := Nat × Nat × (Nat → Int32)) (P := fun i9 => SbT ((([] : List Nat) ++ cTx 40) ++ txN n fu (kdA q)) i9.2.1 i9.2.2) (13 + 1 * tcN fu) (22959 + 1 * tsN fu) 564 (fun _ => [(3, .ref n3), (2, .ref n2), (1, .ref n1), (0, .ref a)]) (fun _ => .ref n24 :: []) (fun i9 => (((((arrS Z n1 6 (wdA Z) ++ arrS Z n2 6 (wdB Z)) ++ arrS Z n3 5 (wdC Z)) ++ wSo Z n24 i9.1 (nI ((([] : List Nat) ++ cTx 40) ++ txN n fu (kdA q)).length)) ++ arrB Z i9.1 i9.2.1 i9.2.2) ++ wPl Z L)) (fun i9 hi9_ => ?_) (fun hk564_3 => ?_)
      · obtain ⟨z3, k3, m3⟩ := i9
        have g3 : SbT ((([] : List Nat) ++ cTx 40) ++ txN n fu (kdA q)) k3 m3 := hi9_
        refine J_ws (((((arrS Z n1 6 (wdA Z) ++ arrS Z n2 6 (wdB Z)) ++ arrS Z n3 5 (wdC Z)) ++ wSo Z n24 z3 (nI ((([] : List Nat) ++ cTx 40) ++ txN n fu (kdA q)).length)) ++ arrB Z z3 k3 m3) ++ wPl Z L) rfl ?_
        refine J_ldcS 39 C iX10_text_564 rfl ?_
        refine J_room (rc2 := 1 + (12 + 1 * tcN fu)) (rs2 := 4002 + (18957 + 1 * tsN fu)) (by omega) (by omega) ?_
        refine J_cVb (As := [.ref (zsk Z 39)]) (st := []) (rc2 := 12 + 1 * tcN fu) (rs2 := 18957 + 1 * tsN fu) (w0 := ((wSo Z n24 z3 (nI ((([] : List Nat) ++ cTx 40) ++ txN n fu (kdA q)).length)) ++ arrB Z z3 k3 m3)) (q0 := 0) C iX10_text_566 lm_X10_96 yc_J4_append_15ec4 yv_J4_append_15ec4 (c_J4_append_C (T := ((([] : List Nat) ++ cTx 40) ++ txN n fu (kdA q))) (i := 39) g3 (by decide) (by simp only [List.length_append, List.length_nil] at hl9 ⊢; omega)) rfl rfl rfl ((arrS Z n1 6 (wdA Z) ++ arrS Z n2 6 (wdB Z)) ++ arrS Z n3 5 (wdC Z)) (wPl Z L) (by simp only [List.append_assoc, List.append_nil, List.nil_append]) rfl (rmT_m (by decide) (by decide)) (Nat.le_of_ble_eq_true rfl) rfl rfl ?_
        rintro _ _ ⟨rfl, y4, c4, b4, rfl, h4⟩
        refine J_st (.ref n24 :: []) rfl ?_
        refine J_ws (((((arrS Z n1 6 (wdA Z) ++ arrS Z n2 6 (wdB Z)) ++ arrS Z n3 5 (wdC Z)) ++ wSo Z n24 y4 (nI (((([] : List Nat) ++ cTx 40) ++ txN n fu (kdA q)) ++ cTx 39).length)) ++ arrB Z y4 c4 b4) ++ wPl Z L) (by simp only [List.append_assoc, List.append_nil, List.nil_append]) ?_
        refine J_aload_n C iX10_text_569 rfl rfl ?_
        refine J_get (.int 31) ((((((arrS Z n1 6 (wdA Z) ++ arrS Z n2 6 (wdB Z)) ++ arrS Z n3 5 (wdC Z)) ++ wSo Z n24 y4 (nI (((([] : List Nat) ++ cTx 40) ++ txN n fu (kdA q)) ++ cTx 39).length)) ++ arrB Z y4 c4 b4)).length + i) C iX10_text_570 gf_X10_7 (mid_at (A := ((((arrS Z n1 6 (wdA Z) ++ arrS Z n2 6 (wdB Z)) ++ arrS Z n3 5 (wdC Z)) ++ wSo Z n24 y4 (nI (((([] : List Nat) ++ cTx 40) ++ txN n fu (kdA q)) ++ cTx 39).length)) ++ arrB Z y4 c4 b4)) (M := wPl Z L) (B := []) (by simp only [List.append_assoc, List.append_nil, List.nil_append]) (wPl_at hi9)) rfl ?_
        refine J_bipush 30 C iX10_text_573 rfl ?_
        refine J_icmpne 583 C iX10_text_575 rfl (fun h575 => ?_) (fun h575 => absurd h575 (by decide))
        refine J_ldcS 42 C iX10_text_583 rfl ?_
        refine J_room (rc2 := 1 + (11 + 1 * tcN fu)) (rs2 := 4002 + (14955 + 1 * tsN fu)) (by omega) (by omega) ?_
        refine J_cVb (As := [.ref (zsk Z 42)]) (st := []) (rc2 := 11 + 1 * tcN fu) (rs2 := 14955 + 1 * tsN fu) (w0 := ((wSo Z n24 y4 (nI (((([] : List Nat) ++ cTx 40) ++ txN n fu (kdA q)) ++ cTx 39).length)) ++ arrB Z y4 c4 b4)) (q0 := 0) C iX10_text_585 lm_X10_96 yc_J4_append_15ec4 yv_J4_append_15ec4 (c_J4_append_C (T := (((([] : List Nat) ++ cTx 40) ++ txN n fu (kdA q)) ++ cTx 39)) (i := 42) h4 (by decide) (by simp only [List.length_append, List.length_nil] at hl9 ⊢; omega)) rfl rfl rfl ((arrS Z n1 6 (wdA Z) ++ arrS Z n2 6 (wdB Z)) ++ arrS Z n3 5 (wdC Z)) (wPl Z L) (by simp only [List.append_assoc, List.append_nil, List.nil_append]) rfl (rmT_m (by decide) (by decide)) (Nat.le_of_ble_eq_true rfl) rfl rfl ?_
        rintro _ _ ⟨rfl, y5, c5, b5, rfl, h5⟩
        refine J_st (.ref n24 :: []) rfl ?_
        refine J_ws (((((arrS Z n1 6 (wdA Z) ++ arrS Z n2 6 (wdB Z)) ++ arrS Z n3 5 (wdC Z)) ++ wSo Z n24 y5 (nI ((((([] : List Nat) ++ cTx 40) ++ txN n fu (kdA q)) ++ cTx 39) ++ cTx 42).length)) ++ arrB Z y5 c5 b5) ++ wPl Z L) (by simp only [List.append_assoc, List.append_nil, List.nil_append]) ?_
        refine J_ldcS 40 C iX10_text_588 rfl ?_
        refine J_room (rc2 := 1 + (10 + 1 * tcN fu)) (rs2 := 4002 + (10953 + 1 * tsN fu)) (by omega) (by omega) ?_
        refine J_cVb (As := [.ref (zsk Z 40)]) (st := []) (rc2 := 10 + 1 * tcN fu) (rs2 := 10953 + 1 * tsN fu) (w0 := ((wSo Z n24 y5 (nI ((((([] : List Nat) ++ cTx 40) ++ txN n fu (kdA q)) ++ cTx 39) ++ cTx 42).length)) ++ arrB Z y5 c5 b5)) (q0 := 0) C iX10_text_590 lm_X10_96 yc_J4_append_15ec4 yv_J4_append_15ec4 (c_J4_append_C (T := ((((([] : List Nat) ++ cTx 40) ++ txN n fu (kdA q)) ++ cTx 39) ++ cTx 42)) (i := 40) h5 (by decide) (by simp only [List.length_append, List.length_nil] at hl9 ⊢; omega)) rfl rfl rfl ((arrS Z n1 6 (wdA Z) ++ arrS Z n2 6 (wdB Z)) ++ arrS Z n3 5 (wdC Z)) (wPl Z L) (by simp only [List.append_assoc, List.append_nil, List.nil_append]) rfl (rmT_m (by decide) (by decide)) (Nat.le_of_ble_eq_true rfl) rfl rfl ?_
        rintro _ _ ⟨rfl, y6, c6, b6, rfl, h6⟩
        refine J_st (.ref n24 :: []) rfl ?_
        refine J_ws (((((arrS Z n1 6 (wdA Z) ++ arrS Z n2 6 (wdB Z)) ++ arrS Z n3 5 (wdC Z)) ++ wSo Z n24 y6 (nI (((((([] : List Nat) ++ cTx 40) ++ txN n fu (kdA q)) ++ cTx 39) ++ cTx 42) ++ cTx 40).length)) ++ arrB Z y6 c6 b6) ++ wPl Z L) (by simp only [List.append_assoc, List.append_nil, List.nil_append]) ?_
        refine J_aload_n C iX10_text_593 rfl rfl ?_
        refine J_get (.ref xb) ((((((arrS Z n1 6 (wdA Z) ++ arrS Z n2 6 (wdB Z)) ++ arrS Z n3 5 (wdC Z)) ++ wSo Z n24 y6 (nI (((((([] : List Nat) ++ cTx 40) ++ txN n fu (kdA q)) ++ cTx 39) ++ cTx 42) ++ cTx 40).length)) ++ arrB Z y6 c6 b6)).length + i) C iX10_text_594 gf_X10_51 (mid_at (A := ((((arrS Z n1 6 (wdA Z) ++ arrS Z n2 6 (wdB Z)) ++ arrS Z n3 5 (wdC Z)) ++ wSo Z n24 y6 (nI (((((([] : List Nat) ++ cTx 40) ++ txN n fu (kdA q)) ++ cTx 39) ++ cTx 42) ++ cTx 40).length)) ++ arrB Z y6 c6 b6)) (M := wPl Z L) (B := []) (by simp only [List.append_assoc, List.append_nil, List.nil_append]) (wPl_at hi9)) rfl ?_
        refine J_alt (ι := Nat × Nat × (Nat → Int32)) (P := fun i9 => SbT ((((((([] : List Nat) ++ cTx 40) ++ txN n fu (kdA q)) ++ cTx 39) ++ cTx 42) ++ cTx 40) ++ txN n fu (kdB q)) i9.2.1 i9.2.2) (9 + 0 * tcN fu) (6951 + 0 * tsN fu) 603 (fun _ => [(3, .ref n3), (2, .ref n2), (1, .ref n1), (0, .ref a)]) (fun _ => .ref n24 :: []) (fun i9 => (((((arrS Z n1 6 (wdA Z) ++ arrS Z n2 6 (wdB Z)) ++ arrS Z n3 5 (wdC Z)) ++ wSo Z n24 i9.1 (nI ((((((([] : List Nat) ++ cTx 40) ++ txN n fu (kdA q)) ++ cTx 39) ++ cTx 42) ++ cTx 40) ++ txN n fu (kdB q)).length)) ++ arrB Z i9.1 i9.2.1 i9.2.2) ++ wPl Z L)) (fun i9 hi9_ => ?_) (fun hk603_7 => ?_)
        · obtain ⟨z7, k7, m7⟩ := i9
          have g7 : SbT ((((((([] : List Nat) ++ cTx 40) ++ txN n fu (kdA q)) ++ cTx 39) ++ cTx 42) ++ cTx 40) ++ txN n fu (kdB q)) k7 m7 := hi9_
          refine J_ws (((((arrS Z n1 6 (wdA Z) ++ arrS Z n2 6 (wdB Z)) ++ arrS Z n3 5 (wdC Z)) ++ wSo Z n24 z7 (nI ((((((([] : List Nat) ++ cTx 40) ++ txN n fu (kdA q)) ++ cTx 39) ++ cTx 42) ++ cTx 40) ++ txN n fu (kdB q)).length)) ++ arrB Z z7 k7 m7) ++ wPl Z L) rfl ?_
          refine J_ldcS 39 C iX10_text_603 rfl ?_
          refine J_room (rc2 := 1 + (8 + 0 * tcN fu)) (rs2 := 4002 + (2949 + 0 * tsN fu)) (by omega) (by omega) ?_
          refine J_cVb (As := [.ref (zsk Z 39)]) (st := []) (rc2 := 8 + 0 * tcN fu) (rs2 := 2949 + 0 * tsN fu) (w0 := ((wSo Z n24 z7 (nI ((((((([] : List Nat) ++ cTx 40) ++ txN n fu (kdA q)) ++ cTx 39) ++ cTx 42) ++ cTx 40) ++ txN n fu (kdB q)).length)) ++ arrB Z z7 k7 m7)) (q0 := 0) C iX10_text_605 lm_X10_96 yc_J4_append_15ec4 yv_J4_append_15ec4 (c_J4_append_C (T := ((((((([] : List Nat) ++ cTx 40) ++ txN n fu (kdA q)) ++ cTx 39) ++ cTx 42) ++ cTx 40) ++ txN n fu (kdB q))) (i := 39) g7 (by decide) (by simp only [List.length_append, List.length_nil] at hl9 ⊢; omega)) rfl rfl rfl ((arrS Z n1 6 (wdA Z) ++ arrS Z n2 6 (wdB Z)) ++ arrS Z n3 5 (wdC Z)) (wPl Z L) (by simp only [List.append_assoc, List.append_nil, List.nil_append]) rfl (rmT_m (by decide) (by decide)) (Nat.le_of_ble_eq_true rfl) rfl rfl ?_
          rintro _ _ ⟨rfl, y8, c8, b8, rfl, h8⟩
          refine J_st (.ref n24 :: []) rfl ?_
          refine J_ws (((((arrS Z n1 6 (wdA Z) ++ arrS Z n2 6 (wdB Z)) ++ arrS Z n3 5 (wdC Z)) ++ wSo Z n24 y8 (nI (((((((([] : List Nat) ++ cTx 40) ++ txN n fu (kdA q)) ++ cTx 39) ++ cTx 42) ++ cTx 40) ++ txN n fu (kdB q)) ++ cTx 39).length)) ++ arrB Z y8 c8 b8) ++ wPl Z L) (by simp only [List.append_assoc, List.append_nil, List.nil_append]) ?_
          refine J_room (rc2 := 2 + (6 + 0 * tcN fu)) (rs2 := 2004 + (945 + 0 * tsN fu)) (by omega) (by omega) ?_
          refine J_cVb (As := []) (st := []) (rc2 := 6 + 0 * tcN fu) (rs2 := 945 + 0 * tsN fu) (w0 := ((wSo Z n24 y8 (nI (((((((([] : List Nat) ++ cTx 40) ++ txN n fu (kdA q)) ++ cTx 39) ++ cTx 42) ++ cTx 40) ++ txN n fu (kdB q)) ++ cTx 39).length)) ++ arrB Z y8 c8 b8)) (q0 := 0) C iX10_text_608 lm_X10_103 yc_J4_toString_0e30d yv_J4_toString_0e30d (c_J4_toString_0e30d (T := (((((((([] : List Nat) ++ cTx 40) ++ txN n fu (kdA q)) ++ cTx 39) ++ cTx 42) ++ cTx 40) ++ txN n fu (kdB q)) ++ cTx 39)) h8 (by simp only [List.length_append, List.length_nil] at hl9 ⊢; omega)) rfl rfl rfl ((arrS Z n1 6 (wdA Z) ++ arrS Z n2 6 (wdB Z)) ++ arrS Z n3 5 (wdC Z)) (wPl Z L) (by simp only [List.append_assoc, List.append_nil, List.nil_append]) rfl (rmT_m (by decide) (by decide)) (Nat.le_of_ble_eq_true rfl) rfl rfl ?_
          rintro _ _ ⟨s9, t9, b9, rfl, rfl, h9⟩
          refine J_st (.ref s9 :: []) rfl ?_
          refine J_ws (((((((arrS Z n1 6 (wdA Z) ++ arrS Z n2 6 (wdB Z)) ++ arrS Z n3 5 (wdC Z)) ++ wTo Z s9 t9) ++ wSo Z n24 y8 (nI (((((((([] : List Nat) ++ cTx 40) ++ txN n fu (kdA q)) ++ cTx 39) ++ cTx 42) ++ cTx 40) ++ txN n fu (kdB q)) ++ cTx 39).length)) ++ arrB Z y8 c8 b8) ++ arrB Z t9 ((((((((([] : List Nat) ++ cTx 40) ++ txN n fu (kdA q)) ++ cTx 39) ++ cTx 42) ++ cTx 40) ++ txN n fu (kdB q)) ++ cTx 39).length) b9) ++ wPl Z L) (by simp only [List.append_assoc, List.append_nil, List.nil_append]) ?_
          refine J_drop [] ((arrS Z n1 6 (wdA Z) ++ arrS Z n2 6 (wdB Z)) ++ arrS Z n3 5 (wdC Z)) ((((wTo Z s9 t9 ++ wSo Z n24 y8 (nI (((((((([] : List Nat) ++ cTx 40) ++ txN n fu (kdA q)) ++ cTx 39) ++ cTx 42) ++ cTx 40) ++ txN n fu (kdB q)) ++ cTx 39).length)) ++ arrB Z y8 c8 b8) ++ arrB Z t9 ((((((((([] : List Nat) ++ cTx 40) ++ txN n fu (kdA q)) ++ cTx 39) ++ cTx 42) ++ cTx 40) ++ txN n fu (kdB q)) ++ cTx 39).length) b9) ++ wPl Z L) (by simp only [List.append_assoc, List.append_nil, List.nil_append]) ?_
          refine J_ws ((((wTo Z s9 t9 ++ wSo Z n24 y8 (nI (((((((([] : List Nat) ++ cTx 40) ++ txN n fu (kdA q)) ++ cTx 39) ++ cTx 42) ++ cTx 40) ++ txN n fu (kdB q)) ++ cTx 39).length)) ++ arrB Z y8 c8 b8) ++ arrB Z t9 ((((((((([] : List Nat) ++ cTx 40) ++ txN n fu (kdA q)) ++ cTx 39) ++ cTx 42) ++ cTx 40) ++ txN n fu (kdB q)) ++ cTx 39).length) b9) ++ wPl Z L) (by simp only [List.append_assoc, List.append_nil, List.nil_append]) ?_
          refine J_drop (wTo Z s9 t9) ((wSo Z n24 y8 (nI (((((((([] : List Nat) ++ cTx 40) ++ txN n fu (kdA q)) ++ cTx 39) ++ cTx 42) ++ cTx 40) ++ txN n fu (kdB q)) ++ cTx 39).length)) ++ arrB Z y8 c8 b8) ((arrB Z t9 ((((((((([] : List Nat) ++ cTx 40) ++ txN n fu (kdA q)) ++ cTx 39) ++ cTx 42) ++ cTx 40) ++ txN n fu (kdB q)) ++ cTx 39).length) b9) ++ wPl Z L) (by simp only [List.append_assoc, List.append_nil, List.nil_append]) ?_
          refine J_ws ((wTo Z s9 t9 ++ arrB Z t9 ((((((((([] : List Nat) ++ cTx 40) ++ txN n fu (kdA q)) ++ cTx 39) ++ cTx 42) ++ cTx 40) ++ txN n fu (kdB q)) ++ cTx 39).length) b9) ++ wPl Z L) (by simp only [List.append_assoc, List.append_nil, List.nil_append]) ?_
          refine J_perm ((wTo Z s9 t9 ++ wPl Z L) ++ arrB Z t9 ((((((((([] : List Nat) ++ cTx 40) ++ txN n fu (kdA q)) ++ cTx 39) ++ cTx 42) ++ cTx 40) ++ txN n fu (kdB q)) ++ cTx 39).length) b9) (sw2 _ _ _) ?_
          refine J_perm ((wPl Z L ++ wTo Z s9 t9) ++ arrB Z t9 ((((((((([] : List Nat) ++ cTx 40) ++ txN n fu (kdA q)) ++ cTx 39) ++ cTx 42) ++ cTx 40) ++ txN n fu (kdB q)) ++ cTx 39).length) b9) (List.perm_append_comm.append_right _) ?_
          exact J_aret C E iX10_text_611 (Or.inl ⟨_, rfl⟩) (Or.inr ⟨s9, _, _, rfl, rfl, h9⟩)
        · refine J_room (rc2 := (tcN fu) + (10 + 0 * tcN fu)) (rs2 := (tsN fu) + (10953 + 0 * tsN fu)) (by omega) (by omega) ?_
          obtain ⟨j1_, e1_, f1_⟩ := InT.at hxb
          refine J_cVb (As := []) (st := .ref n24 :: []) (rc2 := 10 + 0 * tcN fu) (rs2 := 10953 + 0 * tsN fu) (w0 := wPl Z L) (q0 := j1_) C iX10_text_597 lm_X10_111 yc_X10_text yv_X10_text (ih (q := kdB q) hxb (by simp only [List.length_append] at hl9; omega)) rfl rfl (wPl_at f1_) ((((arrS Z n1 6 (wdA Z) ++ arrS Z n2 6 (wdB Z)) ++ arrS Z n3 5 (wdC Z)) ++ wSo Z n24 y6 (nI (((((([] : List Nat) ++ cTx 40) ++ txN n fu (kdA q)) ++ cTx 39) ++ cTx 42) ++ cTx 40).length)) ++ arrB Z y6 c6 b6) [] (by simp only [List.append_assoc, List.append_nil, List.nil_append]) rfl (rmT_le (by omega) (by decide)) (Nat.le_of_ble_eq_true rfl) rfl rfl ?_
          rintro _ _ (⟨j7, hj7, rfl, rfl, e7⟩ | ⟨s7, t7, b7, rfl, rfl, e7⟩)
          · refine J_st (.ref (zsk Z j7) :: .ref n24 :: []) rfl ?_
            refine J_ws (((((arrS Z n1 6 (wdA Z) ++ arrS Z n2 6 (wdB Z)) ++ arrS Z n3 5 (wdC Z)) ++ wSo Z n24 y6 (nI (((((([] : List Nat) ++ cTx 40) ++ txN n fu (kdA q)) ++ cTx 39) ++ cTx 42) ++ cTx 40).length)) ++ arrB Z y6 c6 b6) ++ wPl Z L) (by simp only [List.append_assoc, List.append_nil, List.nil_append]) ?_
            refine J_room (rc2 := 1 + (9 + 0 * tcN fu)) (rs2 := 4002 + (6951 + 0 * tsN fu)) (by omega) (by omega) ?_
            refine J_cVb (As := [.ref (zsk Z j7)]) (st := []) (rc2 := 9 + 0 * tcN fu) (rs2 := 6951 + 0 * tsN fu) (w0 := ((wSo Z n24 y6 (nI (((((([] : List Nat) ++ cTx 40) ++ txN n fu (kdA q)) ++ cTx 39) ++ cTx 42) ++ cTx 40).length)) ++ arrB Z y6 c6 b6)) (q0 := 0) C iX10_text_600 lm_X10_96 yc_J4_append_15ec4 yv_J4_append_15ec4 (c_J4_append_C (T := (((((([] : List Nat) ++ cTx 40) ++ txN n fu (kdA q)) ++ cTx 39) ++ cTx 42) ++ cTx 40)) (i := j7) h6 hj7 (by rw [← e7]; simp only [List.length_append, List.length_nil] at hl9 ⊢; omega)) rfl rfl rfl ((arrS Z n1 6 (wdA Z) ++ arrS Z n2 6 (wdB Z)) ++ arrS Z n3 5 (wdC Z)) (wPl Z L) (by simp only [List.append_assoc, List.append_nil, List.nil_append]) rfl (rmT_m (by decide) (by decide)) (Nat.le_of_ble_eq_true rfl) rfl rfl ?_
            rintro _ _ ⟨rfl, y10, c10, b10, rfl, h10⟩
            refine J_st (.ref n24 :: []) rfl ?_
            refine J_ws (((((arrS Z n1 6 (wdA Z) ++ arrS Z n2 6 (wdB Z)) ++ arrS Z n3 5 (wdC Z)) ++ wSo Z n24 y10 (nI ((((((([] : List Nat) ++ cTx 40) ++ txN n fu (kdA q)) ++ cTx 39) ++ cTx 42) ++ cTx 40) ++ cTx j7).length)) ++ arrB Z y10 c10 b10) ++ wPl Z L) (by simp only [List.append_assoc, List.append_nil, List.nil_append]) ?_
            rw [← e7]
            exact hk603_7 (y10, c10, b10) (by rw [e7]; exact h10)
          · refine J_st (.ref s7 :: .ref n24 :: []) rfl ?_
            refine J_ws (((((((arrS Z n1 6 (wdA Z) ++ arrS Z n2 6 (wdB Z)) ++ arrS Z n3 5 (wdC Z)) ++ wSo Z n24 y6 (nI (((((([] : List Nat) ++ cTx 40) ++ txN n fu (kdA q)) ++ cTx 39) ++ cTx 42) ++ cTx 40).length)) ++ arrB Z y6 c6 b6) ++ wPl Z L) ++ wTo Z s7 t7) ++ arrB Z t7 ((txN n fu (kdB q)).length) b7) (by simp only [List.append_assoc, List.append_nil, List.nil_append]) ?_
            refine J_perm (((((((arrS Z n1 6 (wdA Z) ++ arrS Z n2 6 (wdB Z)) ++ arrS Z n3 5 (wdC Z)) ++ wSo Z n24 y6 (nI (((((([] : List Nat) ++ cTx 40) ++ txN n fu (kdA q)) ++ cTx 39) ++ cTx 42) ++ cTx 40).length)) ++ arrB Z y6 c6 b6) ++ wTo Z s7 t7) ++ wPl Z L) ++ arrB Z t7 ((txN n fu (kdB q)).length) b7) ((sw2 _ _ _).append_right _) ?_
            refine J_perm (((((((arrS Z n1 6 (wdA Z) ++ arrS Z n2 6 (wdB Z)) ++ arrS Z n3 5 (wdC Z)) ++ wSo Z n24 y6 (nI (((((([] : List Nat) ++ cTx 40) ++ txN n fu (kdA q)) ++ cTx 39) ++ cTx 42) ++ cTx 40).length)) ++ arrB Z y6 c6 b6) ++ wTo Z s7 t7) ++ arrB Z t7 ((txN n fu (kdB q)).length) b7) ++ wPl Z L) (sw2 _ _ _) ?_
            refine J_room (rc2 := 1 + (9 + 0 * tcN fu)) (rs2 := 4002 + (6951 + 0 * tsN fu)) (by omega) (by omega) ?_
            refine J_cVb (As := [.ref s7]) (st := []) (rc2 := 9 + 0 * tcN fu) (rs2 := 6951 + 0 * tsN fu) (w0 := ((((wSo Z n24 y6 (nI (((((([] : List Nat) ++ cTx 40) ++ txN n fu (kdA q)) ++ cTx 39) ++ cTx 42) ++ cTx 40).length)) ++ arrB Z y6 c6 b6) ++ wTo Z s7 t7) ++ arrB Z t7 ((txN n fu (kdB q)).length) b7)) (q0 := 0) C iX10_text_600 lm_X10_96 yc_J4_append_15ec4 yv_J4_append_15ec4 (c_J4_append_D (T := (((((([] : List Nat) ++ cTx 40) ++ txN n fu (kdA q)) ++ cTx 39) ++ cTx 42) ++ cTx 40)) (S := txN n fu (kdB q)) h6 e7 (by simp only [List.length_append, List.length_nil] at hl9 ⊢; omega)) rfl rfl rfl ((arrS Z n1 6 (wdA Z) ++ arrS Z n2 6 (wdB Z)) ++ arrS Z n3 5 (wdC Z)) (wPl Z L) (by simp only [List.append_assoc, List.append_nil, List.nil_append]) rfl (rmT_m (by decide) (by decide)) (Nat.le_of_ble_eq_true rfl) rfl rfl ?_
            rintro _ _ ⟨rfl, y11, c11, b11, rfl, h11⟩
            refine J_st (.ref n24 :: []) rfl ?_
            refine J_ws (((((((arrS Z n1 6 (wdA Z) ++ arrS Z n2 6 (wdB Z)) ++ arrS Z n3 5 (wdC Z)) ++ wSo Z n24 y11 (nI ((((((([] : List Nat) ++ cTx 40) ++ txN n fu (kdA q)) ++ cTx 39) ++ cTx 42) ++ cTx 40) ++ txN n fu (kdB q)).length)) ++ arrB Z y11 c11 b11) ++ wTo Z s7 t7) ++ arrB Z t7 ((txN n fu (kdB q)).length) b7) ++ wPl Z L) (by simp only [List.append_assoc, List.append_nil, List.nil_append]) ?_
            refine J_drop ((((arrS Z n1 6 (wdA Z) ++ arrS Z n2 6 (wdB Z)) ++ arrS Z n3 5 (wdC Z)) ++ wSo Z n24 y11 (nI ((((((([] : List Nat) ++ cTx 40) ++ txN n fu (kdA q)) ++ cTx 39) ++ cTx 42) ++ cTx 40) ++ txN n fu (kdB q)).length)) ++ arrB Z y11 c11 b11) (wTo Z s7 t7 ++ arrB Z t7 ((txN n fu (kdB q)).length) b7) (wPl Z L) (by simp only [List.append_assoc, List.append_nil, List.nil_append]) ?_
            refine J_ws (((((arrS Z n1 6 (wdA Z) ++ arrS Z n2 6 (wdB Z)) ++ arrS Z n3 5 (wdC Z)) ++ wSo Z n24 y11 (nI ((((((([] : List Nat) ++ cTx 40) ++ txN n fu (kdA q)) ++ cTx 39) ++ cTx 42) ++ cTx 40) ++ txN n fu (kdB q)).length)) ++ arrB Z y11 c11 b11) ++ wPl Z L) (by simp only [List.append_assoc, List.append_nil, List.nil_append]) ?_
            exact hk603_7 (y11, c11, b11) h11
      · refine J_room (rc2 := (tcN fu) + (14 + 1 * tcN fu)) (rs2 := (tsN fu) + (26961 + 1 * tsN fu)) (by omega) (by omega) ?_
        obtain ⟨j2_, e2_, f2_⟩ := InT.at hxa
        refine J_cVb (As := []) (st := .ref n24 :: []) (rc2 := 14 + 1 * tcN fu) (rs2 := 26961 + 1 * tsN fu) (w0 := wPl Z L) (q0 := j2_) C iX10_text_558 lm_X10_111 yc_X10_text yv_X10_text (ih (q := kdA q) hxa (by simp only [List.length_append] at hl9; omega)) rfl rfl (wPl_at f2_) ((((arrS Z n1 6 (wdA Z) ++ arrS Z n2 6 (wdB Z)) ++ arrS Z n3 5 (wdC Z)) ++ wSo Z n24 y2 (nI (([] : List Nat) ++ cTx 40).length)) ++ arrB Z y2 c2 b2) [] (by simp only [List.append_assoc, List.append_nil, List.nil_append]) rfl (rmT_le (by omega) (by decide)) (Nat.le_of_ble_eq_true rfl) rfl rfl ?_
        rintro _ _ (⟨j3, hj3, rfl, rfl, e3⟩ | ⟨s3, t3, b3, rfl, rfl, e3⟩)
        · refine J_st (.ref (zsk Z j3) :: .ref n24 :: []) rfl ?_
          refine J_ws (((((arrS Z n1 6 (wdA Z) ++ arrS Z n2 6 (wdB Z)) ++ arrS Z n3 5 (wdC Z)) ++ wSo Z n24 y2 (nI (([] : List Nat) ++ cTx 40).length)) ++ arrB Z y2 c2 b2) ++ wPl Z L) (by simp only [List.append_assoc, List.append_nil, List.nil_append]) ?_
          refine J_room (rc2 := 1 + (13 + 1 * tcN fu)) (rs2 := 4002 + (22959 + 1 * tsN fu)) (by omega) (by omega) ?_
          refine J_cVb (As := [.ref (zsk Z j3)]) (st := []) (rc2 := 13 + 1 * tcN fu) (rs2 := 22959 + 1 * tsN fu) (w0 := ((wSo Z n24 y2 (nI (([] : List Nat) ++ cTx 40).length)) ++ arrB Z y2 c2 b2)) (q0 := 0) C iX10_text_561 lm_X10_96 yc_J4_append_15ec4 yv_J4_append_15ec4 (c_J4_append_C (T := (([] : List Nat) ++ cTx 40)) (i := j3) h2 hj3 (by rw [← e3]; simp only [List.length_append, List.length_nil] at hl9 ⊢; omega)) rfl rfl rfl ((arrS Z n1 6 (wdA Z) ++ arrS Z n2 6 (wdB Z)) ++ arrS Z n3 5 (wdC Z)) (wPl Z L) (by simp only [List.append_assoc, List.append_nil, List.nil_append]) rfl (rmT_m (by decide) (by decide)) (Nat.le_of_ble_eq_true rfl) rfl rfl ?_
          rintro _ _ ⟨rfl, y12, c12, b12, rfl, h12⟩
          refine J_st (.ref n24 :: []) rfl ?_
          refine J_ws (((((arrS Z n1 6 (wdA Z) ++ arrS Z n2 6 (wdB Z)) ++ arrS Z n3 5 (wdC Z)) ++ wSo Z n24 y12 (nI ((([] : List Nat) ++ cTx 40) ++ cTx j3).length)) ++ arrB Z y12 c12 b12) ++ wPl Z L) (by simp only [List.append_assoc, List.append_nil, List.nil_append]) ?_
          rw [← e3]
          exact hk564_3 (y12, c12, b12) (by rw [e3]; exact h12)
        · refine J_st (.ref s3 :: .ref n24 :: []) rfl ?_
          refine J_ws (((((((arrS Z n1 6 (wdA Z) ++ arrS Z n2 6 (wdB Z)) ++ arrS Z n3 5 (wdC Z)) ++ wSo Z n24 y2 (nI (([] : List Nat) ++ cTx 40).length)) ++ arrB Z y2 c2 b2) ++ wPl Z L) ++ wTo Z s3 t3) ++ arrB Z t3 ((txN n fu (kdA q)).length) b3) (by simp only [List.append_assoc, List.append_nil, List.nil_append]) ?_
          refine J_perm (((((((arrS Z n1 6 (wdA Z) ++ arrS Z n2 6 (wdB Z)) ++ arrS Z n3 5 (wdC Z)) ++ wSo Z n24 y2 (nI (([] : List Nat) ++ cTx 40).length)) ++ arrB Z y2 c2 b2) ++ wTo Z s3 t3) ++ wPl Z L) ++ arrB Z t3 ((txN n fu (kdA q)).length) b3) ((sw2 _ _ _).append_right _) ?_
          refine J_perm (((((((arrS Z n1 6 (wdA Z) ++ arrS Z n2 6 (wdB Z)) ++ arrS Z n3 5 (wdC Z)) ++ wSo Z n24 y2 (nI (([] : List Nat) ++ cTx 40).length)) ++ arrB Z y2 c2 b2) ++ wTo Z s3 t3) ++ arrB Z t3 ((txN n fu (kdA q)).length) b3) ++ wPl Z L) (sw2 _ _ _) ?_
          refine J_room (rc2 := 1 + (13 + 1 * tcN fu)) (rs2 := 4002 + (22959 + 1 * tsN fu)) (by omega) (by omega) ?_
          refine J_cVb (As := [.ref s3]) (st := []) (rc2 := 13 + 1 * tcN fu) (rs2 := 22959 + 1 * tsN fu) (w0 := ((((wSo Z n24 y2 (nI (([] : List Nat) ++ cTx 40).length)) ++ arrB Z y2 c2 b2) ++ wTo Z s3 t3) ++ arrB Z t3 ((txN n fu (kdA q)).length) b3)) (q0 := 0) C iX10_text_561 lm_X10_96 yc_J4_append_15ec4 yv_J4_append_15ec4 (c_J4_append_D (T := (([] : List Nat) ++ cTx 40)) (S := txN n fu (kdA q)) h2 e3 (by simp only [List.length_append, List.length_nil] at hl9 ⊢; omega)) rfl rfl rfl ((arrS Z n1 6 (wdA Z) ++ arrS Z n2 6 (wdB Z)) ++ arrS Z n3 5 (wdC Z)) (wPl Z L) (by simp only [List.append_assoc, List.append_nil, List.nil_append]) rfl (rmT_m (by decide) (by decide)) (Nat.le_of_ble_eq_true rfl) rfl rfl ?_
          rintro _ _ ⟨rfl, y13, c13, b13, rfl, h13⟩
          refine J_st (.ref n24 :: []) rfl ?_
          refine J_ws (((((((arrS Z n1 6 (wdA Z) ++ arrS Z n2 6 (wdB Z)) ++ arrS Z n3 5 (wdC Z)) ++ wSo Z n24 y13 (nI ((([] : List Nat) ++ cTx 40) ++ txN n fu (kdA q)).length)) ++ arrB Z y13 c13 b13) ++ wTo Z s3 t3) ++ arrB Z t3 ((txN n fu (kdA q)).length) b3) ++ wPl Z L) (by simp only [List.append_assoc, List.append_nil, List.nil_append]) ?_
          refine J_drop ((((arrS Z n1 6 (wdA Z) ++ arrS Z n2 6 (wdB Z)) ++ arrS Z n3 5 (wdC Z)) ++ wSo Z n24 y13 (nI ((([] : List Nat) ++ cTx 40) ++ txN n fu (kdA q)).length)) ++ arrB Z y13 c13 b13) (wTo Z s3 t3 ++ arrB Z t3 ((txN n fu (kdA q)).length) b3) (wPl Z L) (by simp only [List.append_assoc, List.append_nil, List.nil_append]) ?_
          refine J_ws (((((arrS Z n1 6 (wdA Z) ++ arrS Z n2 6 (wdB Z)) ++ arrS Z n3 5 (wdC Z)) ++ wSo Z n24 y13 (nI ((([] : List Nat) ++ cTx 40) ++ txN n fu (kdA q)).length)) ++ arrB Z y13 c13 b13) ++ wPl Z L) (by simp only [List.append_assoc, List.append_nil, List.nil_append]) ?_
          exact hk564_3 (y13, c13, b13) h13

