set_option maxRecDepth 100000 in
set_option maxHeartbeats 4000000 in
theorem c_X3_read {Z : GZ} {l : Launch} {p kk t b L : Nat → Nat} {tm nk : Nat} {ti si fl fa hc lc sc ct : Int32} {br : Bool} {tb : Nat → Int32} {nm : Nat → Int64} {bP bH o g j l0 l1 l2 l3 l4 l5 : Nat → Int32} {kf0 : Nat → Option Nat} {sf0 : Nat → Int32} {vf0 : Nat → Int64} {y0 y1 y2 y3 y4 y5 : Int32}  : Ct Z l yX3_read cX3_read 2 (some .int) (rmK 44) [.ref (p 0)] (((wBk Z b L hc lc sc nm bP bH o g j l0 l1 l2 l3 l4 l5 ++ wPa Z p kk b ti si nk br fl fa y0 y1 y2 y3 y4 y5) ++ wTk Z kk t ct kf0 sf0 vf0) ++ wTp Z t (nI tm) tb) (fun v w => ∃ i2 b2 e2 a2 s2 o2 g2 j2 m2 nm2 bP2 bH2 u2 l0x2 l1x2 l2x2 l3x2 l4x2 l5x2 y0x2 y1x2 y2x2 y3x2 y4x2 y5x2, readR (tkT tm tb) (sfF tm tb sf0 (tL tm tb + 1)) (vfF tm tb vf0 (tL tm tb + 1)) 400 ((0, false, 0, -1, 0, o, g, j), 0, nm, bP, bH, 0, l0, l1, l2, l3, l4, l5) = ((i2, b2, e2, a2, s2, o2, g2, j2), m2, nm2, bP2, bH2, u2, l0x2, l1x2, l2x2, l3x2, l4x2, l5x2) ∧ i2 ≤ tL tm tb ∧ s2 ≤ 400 ∧ m2 ≤ 12 ∧ u2 ≤ 16 ∧ v = some (.int e2) ∧ w = (((wBk Z b L (nI m2) (nI u2) (nI s2) nm2 bP2 bH2 o2 g2 j2 l0x2 l1x2 l2x2 l3x2 l4x2 l5x2 ++ wPa Z p kk b (nI i2) ((sfF tm tb sf0 (tL tm tb + 1)) i2) (nw (tkT tm tb) i2 b2) b2 e2 a2 y0x2 y1x2 y2x2 y3x2 y4x2 y5x2) ++ wTk Z kk t (nI (tL tm tb + 1)) (kfF Z tm tb kf0 (tL tm tb + 1)) (sfF tm tb sf0 (tL tm tb + 1)) (vfF tm tb vf0 (tL tm tb + 1))) ++ wTp Z t (nI tm) tb)) := by
  refine Ct.ofJ (own := RX3) (nm := "read") (lv0 := [(0, .ref (p 0))]) (by decide) rfl rfl (Nat.le_of_ble_eq_true rfl) rfl (fun X hXl C E => ?_)
  subst hXl
  refine J_aload_n C iX3_read_0 rfl rfl ?_
  refine J_get (.ref (kk 0)) 24 C iX3_read_1 gf_X3_27 rfl rfl ?_
  refine J_cVb (As := []) (st := []) (rc2 := (rmK 44).cells) (rs2 := (rmK 44).slots) (w0 := (wTk Z kk t ct kf0 sf0 vf0 ++ wTp Z t (nI tm) tb)) C iX3_read_4 lm_X3_35 yc_X7_scan yv_X7_scan c_X7_scan (q0 := 0) rfl rfl rfl (wBk Z b L hc lc sc nm bP bH o g j l0 l1 l2 l3 l4 l5 ++ wPa Z p kk b ti si nk br fl fa y0 y1 y2 y3 y4 y5) [] (by simp only [List.append_assoc, List.append_nil, List.nil_append]) rfl (rmK_le (by omega) (by decide)) (Nat.le_of_ble_eq_true rfl) rfl rfl ?_
  rintro _ _ ⟨rfl, rfl⟩
  refine J_st ([]) rfl ?_
  refine J_ws (((wBk Z b L hc lc sc nm bP bH o g j l0 l1 l2 l3 l4 l5 ++ wPa Z p kk b ti si nk br fl fa y0 y1 y2 y3 y4 y5) ++ wTk Z kk t (nI (tL tm tb + 1)) (kfF Z tm tb kf0 (tL tm tb + 1)) (sfF tm tb sf0 (tL tm tb + 1)) (vfF tm tb vf0 (tL tm tb + 1))) ++ wTp Z t (nI tm) tb) (by simp only [List.append_assoc, List.append_nil, List.nil_append]) ?_
  generalize hk0 : kfF Z tm tb kf0 (tL tm tb + 1) = kf
  generalize hs0 : sfF tm tb sf0 (tL tm tb + 1) = sf
  generalize hv0 : vfF tm tb vf0 (tL tm tb + 1) = vf
  generalize ht0 : tkT tm tb = tk
  have hkf : ∀ i, i ≤ tL tm tb → kf i = some (zad Z (tk i)) := fun i hi => by rw [← hk0, ← ht0]; exact kfF_at (by omega)
  have htk : ∀ i, tk i < 43 := fun i => by rw [← ht0]; exact tkT_lt tm tb i
  have hend : ∀ i, i ≤ tL tm tb → tk i ≠ 41 → tk i ≠ 42 → i < tL tm tb := by rw [← ht0]; exact tkT_end
  have hLt : tL tm tb ≤ 400 := (tL_spec tm tb).1
  generalize hL0 : tL tm tb = Lt at hkf hend hLt ⊢
  refine J_aload_n C iX3_read_7 rfl rfl ?_
  refine J_get (.ref (b 0)) 24 C iX3_read_8 gf_X3_31 rfl rfl ?_
  refine J_cVb (As := []) (st := []) (rc2 := (rmK 44).cells) (rs2 := (rmK 44).slots) C iX3_read_11 lm_X3_40 yc_X0_empty yv_X0_empty c_X0_empty (q0 := 0) rfl rfl rfl [] ((wPa Z p kk b ti si nk br fl fa y0 y1 y2 y3 y4 y5 ++ wTk Z kk t (nI (Lt + 1)) kf sf vf) ++ wTp Z t (nI tm) tb) rfl rfl (rmK_le (by omega) (by decide)) (Nat.le_of_ble_eq_true rfl) rfl rfl ?_
  rintro _ _ ⟨rfl, rfl⟩
  refine J_st ([]) rfl ?_
  refine J_ws (((wBk Z b L 0 0 0 nm bP bH o g j l0 l1 l2 l3 l4 l5 ++ wPa Z p kk b ti si nk br fl fa y0 y1 y2 y3 y4 y5) ++ wTk Z kk t (nI (Lt + 1)) kf sf vf) ++ wTp Z t (nI tm) tb) rfl ?_
  refine J_aload_n C iX3_read_14 rfl rfl ?_
  refine J_iconst 0 C iX3_read_15 rfl ?_
  refine J_put (((wBk Z b L 0 0 0 nm bP bH o g j l0 l1 l2 l3 l4 l5 ++ wPa Z p kk b ti si nk false fl fa y0 y1 y2 y3 y4 y5) ++ wTk Z kk t (nI (Lt + 1)) kf sf vf) ++ wTp Z t (nI tm) tb) 24 C iX3_read_16 pf_X3_45 rfl rfl rfl (Nat.le_of_ble_eq_true rfl) rfl ?_
  refine J_aload_n C iX3_read_19 rfl rfl ?_
  refine J_iconst 0 C iX3_read_20 rfl ?_
  refine J_put (((wBk Z b L 0 0 0 nm bP bH o g j l0 l1 l2 l3 l4 l5 ++ wPa Z p kk b 0 si nk false fl fa y0 y1 y2 y3 y4 y5) ++ wTk Z kk t (nI (Lt + 1)) kf sf vf) ++ wTp Z t (nI tm) tb) 24 C iX3_read_21 pf_X3_49 rfl rfl rfl (Nat.le_of_ble_eq_true rfl) rfl ?_
  refine J_aload_n C iX3_read_24 rfl rfl ?_
  refine J_aload_n C iX3_read_25 rfl rfl ?_
  refine J_get (.ref (kk 0)) 24 C iX3_read_26 gf_X3_27 rfl rfl ?_
  refine J_iconst 0 C iX3_read_29 rfl ?_
  refine J_cVb (As := [.int 0]) (st := .ref (p 0) :: []) (rc2 := (rmK 44).cells) (rs2 := (rmK 44).slots) (w0 := (wTk Z kk t (nI (Lt + 1)) kf sf vf ++ wTp Z t (nI tm) tb)) C iX3_read_30 lm_X3_53 yc_X7_startAt yv_X7_startAt (c_X7_startAt (n := Lt + 1) (i := 0) (by omega) (by omega)) (q0 := 0) rfl rfl rfl (wBk Z b L 0 0 0 nm bP bH o g j l0 l1 l2 l3 l4 l5 ++ wPa Z p kk b 0 si nk false fl fa y0 y1 y2 y3 y4 y5) [] (by simp only [List.append_assoc, List.append_nil, List.nil_append]) rfl (rmK_le (by omega) (by decide)) (Nat.le_of_ble_eq_true rfl) rfl rfl ?_
  rintro _ _ ⟨rfl, rfl⟩
  refine J_st (.int (sf 0) :: .ref (p 0) :: []) rfl ?_
  refine J_ws (((wBk Z b L 0 0 0 nm bP bH o g j l0 l1 l2 l3 l4 l5 ++ wPa Z p kk b 0 si nk false fl fa y0 y1 y2 y3 y4 y5) ++ wTk Z kk t (nI (Lt + 1)) kf sf vf) ++ wTp Z t (nI tm) tb) (by simp only [List.append_assoc, List.append_nil, List.nil_append]) ?_
  refine J_put (((wBk Z b L 0 0 0 nm bP bH o g j l0 l1 l2 l3 l4 l5 ++ wPa Z p kk b 0 (sf 0) nk false fl fa y0 y1 y2 y3 y4 y5) ++ wTk Z kk t (nI (Lt + 1)) kf sf vf) ++ wTp Z t (nI tm) tb) 24 C iX3_read_33 pf_X3_57 rfl rfl rfl (Nat.le_of_ble_eq_true rfl) rfl ?_
  refine J_aload_n C iX3_read_36 rfl rfl ?_
  refine J_aload_n C iX3_read_37 rfl rfl ?_
  refine J_get (.ref (kk 0)) 24 C iX3_read_38 gf_X3_27 rfl rfl ?_
  refine J_iconst 0 C iX3_read_41 rfl ?_
  refine J_cVb (As := [.int 0]) (st := .ref (p 0) :: []) (rc2 := (rmK 44).cells) (rs2 := (rmK 44).slots) (w0 := (wTk Z kk t (nI (Lt + 1)) kf sf vf ++ wTp Z t (nI tm) tb)) C iX3_read_42 lm_X3_60 yc_X7_kindAt yv_X7_kindAt (c_X7_kindAt (n := Lt + 1) (i := 0) (κ := tk 0) (by omega) (by omega) (hkf _ (by omega))) (q0 := 0) rfl rfl rfl (wBk Z b L 0 0 0 nm bP bH o g j l0 l1 l2 l3 l4 l5 ++ wPa Z p kk b 0 (sf 0) nk false fl fa y0 y1 y2 y3 y4 y5) [] (by simp only [List.append_assoc, List.append_nil, List.nil_append]) rfl (rmK_le (by omega) (by decide)) (Nat.le_of_ble_eq_true rfl) rfl rfl ?_
  rintro _ _ ⟨rfl, rfl⟩
  refine J_st (.ref (zad Z (tk 0)) :: .ref (p 0) :: []) rfl ?_
  refine J_ws (((wBk Z b L 0 0 0 nm bP bH o g j l0 l1 l2 l3 l4 l5 ++ wPa Z p kk b 0 (sf 0) nk false fl fa y0 y1 y2 y3 y4 y5) ++ wTk Z kk t (nI (Lt + 1)) kf sf vf) ++ wTp Z t (nI tm) tb) (by simp only [List.append_assoc, List.append_nil, List.nil_append]) ?_
  refine J_put (((wBk Z b L 0 0 0 nm bP bH o g j l0 l1 l2 l3 l4 l5 ++ wPa Z p kk b 0 (sf 0) (tk 0) false fl fa y0 y1 y2 y3 y4 y5) ++ wTk Z kk t (nI (Lt + 1)) kf sf vf) ++ wTp Z t (nI tm) tb) 24 C iX3_read_45 pf_X3_24 rfl rfl rfl (Nat.le_of_ble_eq_true rfl) rfl ?_
  refine J_aload_n C iX3_read_48 rfl rfl ?_
  refine J_iconst 0 C iX3_read_49 rfl ?_
  refine J_put (((wBk Z b L 0 0 0 nm bP bH o g j l0 l1 l2 l3 l4 l5 ++ wPa Z p kk b 0 (sf 0) (tk 0) false 0 fa y0 y1 y2 y3 y4 y5) ++ wTk Z kk t (nI (Lt + 1)) kf sf vf) ++ wTp Z t (nI tm) tb) 24 C iX3_read_50 pf_X3_64 rfl rfl rfl (Nat.le_of_ble_eq_true rfl) rfl ?_
  refine J_aload_n C iX3_read_53 rfl rfl ?_
  refine J_iconst (-1) C iX3_read_54 rfl ?_
  refine J_put (((wBk Z b L 0 0 0 nm bP bH o g j l0 l1 l2 l3 l4 l5 ++ wPa Z p kk b 0 (sf 0) (tk 0) false 0 (-1) y0 y1 y2 y3 y4 y5) ++ wTk Z kk t (nI (Lt + 1)) kf sf vf) ++ wTp Z t (nI tm) tb) 24 C iX3_read_55 pf_X3_67 rfl rfl rfl (Nat.le_of_ble_eq_true rfl) rfl ?_
  refine J_iconst 0 C iX3_read_58 rfl ?_
  refine J_istore_n [(1, .int 0), (0, .ref (p 0))] C iX3_read_59 rfl (by decide) rfl ?_
  refine J_lvm [(1, .int (nI 0)), (0, .ref (p 0))] rfl ?_
  refine J_ws (((wBk Z b L (nI 0) (nI 0) (nI 0) nm bP bH o g j l0 l1 l2 l3 l4 l5 ++ wPa Z p kk b (nI 0) (sf 0) (nw tk 0 false) false 0 (-1) y0 y1 y2 y3 y4 y5) ++ wTk Z kk t (nI (Lt + 1)) kf sf vf) ++ wTp Z t (nI tm) tb) rfl ?_
  refine J_forI (σ := RS × Int32 × Int32 × Int32 × Int32 × Int32 × Int32) (fun k q => [(1, .int (nI k)), (0, .ref (p 0))]) (fun k q => (((wBk Z b L (nI q.1.2.1) (nI q.1.2.2.2.2.2.1) (nI q.1.1.2.2.2.2.1) q.1.2.2.1 q.1.2.2.2.1 q.1.2.2.2.2.1 q.1.1.2.2.2.2.2.1 q.1.1.2.2.2.2.2.2.1 q.1.1.2.2.2.2.2.2.2 q.1.2.2.2.2.2.2.1 q.1.2.2.2.2.2.2.2.1 q.1.2.2.2.2.2.2.2.2.1 q.1.2.2.2.2.2.2.2.2.2.1 q.1.2.2.2.2.2.2.2.2.2.2.1 q.1.2.2.2.2.2.2.2.2.2.2.2 ++ wPa Z p kk b (nI q.1.1.1) (sf q.1.1.1) (nw tk q.1.1.1 q.1.1.2.1) q.1.1.2.1 q.1.1.2.2.1 q.1.1.2.2.2.1 q.2.1 q.2.2.1 q.2.2.2.1 q.2.2.2.2.1 q.2.2.2.2.2.1 q.2.2.2.2.2.2) ++ wTk Z kk t (nI (Lt + 1)) kf sf vf) ++ wTp Z t (nI tm) tb)) (fun k q => readR tk sf vf (400 - k) q.1 = readR tk sf vf 400 ((0, false, 0, -1, 0, o, g, j), 0, nm, bP, bH, 0, l0, l1, l2, l3, l4, l5) ∧ q.1.1.1 ≤ Lt ∧ q.1.1.2.2.2.2.1 ≤ 400 ∧ q.1.2.1 ≤ 12 ∧ q.1.2.2.2.2.2.1 ≤ 16) 400 0 (((0, false, 0, -1, 0, o, g, j), 0, nm, bP, bH, 0, l0, l1, l2, l3, l4, l5), y0, y1, y2, y3, y4, y5) (by omega) ⟨rfl, Nat.zero_le _, Nat.zero_le _, Nat.zero_le _, Nat.zero_le _⟩ ?_ ?_
  · rintro ⟨⟨⟨i5, b5, e5, a5, s5, o5, g5, j5⟩, m5, nm5, bP5, bH5, u5, l0x5, l1x5, l2x5, l3x5, l4x5, l5x5⟩, y0x5, y1x5, y2x5, y3x5, y4x5, y5x5⟩ ⟨hI, hli5, hls5, hlm5, hlu5⟩
    dsimp only at hI hli5 hls5 hlm5 hlu5
    refine J_iload_n C iX3_read_60 rfl rfl ?_
    refine J_sipush 400 C iX3_read_61 rfl ?_
    refine J_icmpge 119 C iX3_read_64 rfl (fun h64 => ?_) (fun h64 => absurd (by decide) h64)
    refine J_aload_n C iX3_read_119 rfl rfl ?_
    refine J_get (.int e5) 24 C iX3_read_120 gf_X3_64 rfl rfl ?_
    exact J_iret C E iX3_read_123 ⟨i5, b5, e5, a5, s5, o5, g5, j5, m5, nm5, bP5, bH5, u5, l0x5, l1x5, l2x5, l3x5, l4x5, l5x5, y0x5, y1x5, y2x5, y3x5, y4x5, y5x5, by rw [← hI]; rfl, by omega, by omega, by omega, by omega, rfl, rfl⟩
  · rintro k ⟨⟨⟨i5, b5, e5, a5, s5, o5, g5, j5⟩, m5, nm5, bP5, bH5, u5, l0x5, l1x5, l2x5, l3x5, l4x5, l5x5⟩, y0x5, y1x5, y2x5, y3x5, y4x5, y5x5⟩ hk0 hk ⟨hI, hli5, hls5, hlm5, hlu5⟩ ih
    dsimp only at hI hli5 hls5 hlm5 hlu5
    refine J_iload_n C iX3_read_60 rfl rfl ?_
    refine J_sipush 400 C iX3_read_61 rfl ?_
    refine J_icmpge 119 C iX3_read_64 rfl (fun h64 => absurd h64 (nI_ge (a := k) (b := 400) hk (by decide))) (fun h64 => ?_)
    refine J_aload_n C iX3_read_67 rfl rfl ?_
    refine J_get (.ref (zad Z (nw tk i5 b5))) 24 C iX3_read_68 gf_X3_24 rfl rfl ?_
    refine J_getsK C iX3_read_71 kf_X3_70 ?_
    by_cases hs74 : (nw tk i5 b5) = 41
    · refine J_acmpeq 119 C iX3_read_74 rfl (fun h74 => ?_) (fun h74 => absurd (congrArg (zad Z) hs74) h74)
      refine J_aload_n C iX3_read_119 rfl rfl ?_
      refine J_get (.int e5) 24 C iX3_read_120 gf_X3_64 rfl rfl ?_
      exact J_iret C E iX3_read_123 ⟨i5, b5, e5, a5, s5, o5, g5, j5, m5, nm5, bP5, bH5, u5, l0x5, l1x5, l2x5, l3x5, l4x5, l5x5, y0x5, y1x5, y2x5, y3x5, y4x5, y5x5, by rw [← hI, show 400 - k = 400 - (k + 1) + 1 by omega, readR]; rw [if_pos (show nowC tk (i5, b5, e5, a5, s5, o5, g5, j5) = 41 from hs74)], by omega, by omega, by omega, by omega, rfl, rfl⟩
    · refine J_acmpeq 119 C iX3_read_74 rfl (fun h74 => absurd h74 (fun e => hs74 (zad_inj C (nw_lt htk _ _) (by decide) e))) (fun h74 => ?_)
      refine J_aload_n C iX3_read_77 rfl rfl ?_
      refine J_get (.int (b2i b5)) 24 C iX3_read_78 gf_X3_45 rfl rfl ?_
      refine J_ifneb 119 C iX3_read_81 rfl (fun h81 => ?_) (fun h81 => ?_)
      · refine J_aload_n C iX3_read_119 rfl rfl ?_
        refine J_get (.int e5) 24 C iX3_read_120 gf_X3_64 rfl rfl ?_
        exact J_iret C E iX3_read_123 ⟨i5, b5, e5, a5, s5, o5, g5, j5, m5, nm5, bP5, bH5, u5, l0x5, l1x5, l2x5, l3x5, l4x5, l5x5, y0x5, y1x5, y2x5, y3x5, y4x5, y5x5, by rw [← hI, show 400 - k = 400 - (k + 1) + 1 by omega, readR]; rw [if_neg (show ¬ nowC tk (i5, b5, e5, a5, s5, o5, g5, j5) = 41 from hs74), if_pos (show brkC (i5, b5, e5, a5, s5, o5, g5, j5) = true from h81)], by omega, by omega, by omega, by omega, rfl, rfl⟩
      · refine J_aload_n C iX3_read_84 rfl rfl ?_
        refine J_get (.ref (zad Z (nw tk i5 b5))) 24 C iX3_read_85 gf_X3_24 rfl rfl ?_
        refine J_getsK C iX3_read_88 kf_X3_73 ?_
        by_cases hs91 : (nw tk i5 b5) = 0
        · refine J_acmpne 101 C iX3_read_91 rfl (fun h91 => absurd (congrArg (zad Z) hs91) h91) (fun h91 => ?_)
          refine J_aload_n C iX3_read_94 rfl rfl ?_
          refine J_cV (As := []) (st := []) (rc2 := (rmK 44).cells) (rs2 := (rmK 44).slots) C iX3_read_95 lm_X3_76 yc_X3_houseLine yv_X3_houseLine (c_X3_houseLine hLt hkf htk hend (by omega) (by omega) (by omega)) (q0 := 24) rfl rfl rfl rfl (rmK_le (by omega) (by decide)) (Nat.le_of_ble_eq_true rfl) rfl rfl ?_
          rintro _ _ ⟨i164, b164, e164, a164, s164, o164, g164, j164, z0164, z1164, z2164, hR164, hli164, hls164, rfl, rfl⟩
          refine J_st ([]) rfl ?_
          have hx164 := inc_le12 (m := m5) (by omega)
          refine J_goto 105 C iX3_read_98 rfl ?_
          refine J_aload_n C iX3_read_105 rfl rfl ?_
          refine J_getsK C iX3_read_106 kf_X3_82 ?_
          refine J_cV (As := [.ref (zad Z 28)]) (st := []) (rc2 := (rmK 44).cells) (rs2 := (rmK 44).slots) C iX3_read_109 lm_X3_85 yc_X3_take yv_X3_take (c_X3_take (k := 28) hLt hkf htk hend (by omega) (by omega) (by omega) (by decide) (by decide) (by decide)) (q0 := 24) rfl rfl rfl rfl (rmK_le (by omega) (by decide)) (Nat.le_of_ble_eq_true rfl) rfl rfl ?_
          rintro _ _ ⟨i165, b165, e165, a165, s165, o165, g165, j165, hR165, hli165, hls165, rfl, rfl⟩
          refine J_st (.long (valT tk vf 28 (i164, b164, e164, a164, s164, o164, g164, j164)) :: []) rfl ?_
          refine J_pop2 C iX3_read_112 rfl ?_
          refine J_iinc ((nI k) + 1) [(1, .int ((nI k) + 1)), (0, .ref (p 0))] C iX3_read_113 rfl rfl (by decide) rfl ?_
          rw [show (nI k) + 1 = nI (k + 1) from nI_add _ _]
          refine J_goto 60 C iX3_read_116 rfl ?_
          refine J_lvm [(1, .int (nI (k + 1))), (0, .ref (p 0))] rfl ?_
          exact ih (((i165, b165, e165, a165, s165, o165, g165, j165), (inc m5 12), updCL nm5 m5 12 z0164, updC bP5 m5 12 z1164.toInt32, updC bH5 m5 12 z2164.toInt32, u5, l0x5, l1x5, l2x5, l3x5, l4x5, l5x5), y0x5, y1x5, y2x5, y3x5, y4x5, y5x5) ⟨by rw [← hI, show 400 - k = 400 - (k + 1) + 1 by omega, readR]; rw [if_neg (show ¬ nowC tk (i5, b5, e5, a5, s5, o5, g5, j5) = 41 from hs74), if_neg (show ¬ brkC (i5, b5, e5, a5, s5, o5, g5, j5) = true from (by rw [brkC, h81]; decide)), lineC]; rw [if_pos (show nowC tk (i5, b5, e5, a5, s5, o5, g5, j5) = 0 from hs91), hR164]; dsimp only; rw [hR165], by omega, by omega, by omega, by omega⟩
        · refine J_acmpne 101 C iX3_read_91 rfl (fun h91 => ?_) (fun h91 => absurd h91 (fun e => hs91 (zad_inj C (nw_lt htk _ _) (by decide) e)))
          refine J_aload_n C iX3_read_101 rfl rfl ?_
          refine J_cV (As := []) (st := []) (rc2 := (rmK 44).cells) (rs2 := (rmK 44).slots) C iX3_read_102 lm_X3_79 yc_X3_lawLine yv_X3_lawLine (c_X3_lawLine hLt hkf htk hend (by omega) (by omega) (by omega) (by omega)) (q0 := 24) rfl rfl rfl rfl (rmK_le (by omega) (by decide)) (Nat.le_of_ble_eq_true rfl) rfl rfl ?_
          rintro _ _ ⟨i166, b166, e166, a166, s166, o166, g166, j166, z0166, z1166, z2166, z3166, z4166, z5166, hR166, hli166, hls166, rfl, rfl⟩
          refine J_st ([]) rfl ?_
          have hx166 := inc_le16 (m := u5) (by omega)
          refine J_aload_n C iX3_read_105 rfl rfl ?_
          refine J_getsK C iX3_read_106 kf_X3_82 ?_
          refine J_cV (As := [.ref (zad Z 28)]) (st := []) (rc2 := (rmK 44).cells) (rs2 := (rmK 44).slots) C iX3_read_109 lm_X3_85 yc_X3_take yv_X3_take (c_X3_take (k := 28) hLt hkf htk hend (by omega) (by omega) (by omega) (by decide) (by decide) (by decide)) (q0 := 24) rfl rfl rfl rfl (rmK_le (by omega) (by decide)) (Nat.le_of_ble_eq_true rfl) rfl rfl ?_
          rintro _ _ ⟨i167, b167, e167, a167, s167, o167, g167, j167, hR167, hli167, hls167, rfl, rfl⟩
          refine J_st (.long (valT tk vf 28 (i166, b166, e166, a166, s166, o166, g166, j166)) :: []) rfl ?_
          refine J_pop2 C iX3_read_112 rfl ?_
          refine J_iinc ((nI k) + 1) [(1, .int ((nI k) + 1)), (0, .ref (p 0))] C iX3_read_113 rfl rfl (by decide) rfl ?_
          rw [show (nI k) + 1 = nI (k + 1) from nI_add _ _]
          refine J_goto 60 C iX3_read_116 rfl ?_
          refine J_lvm [(1, .int (nI (k + 1))), (0, .ref (p 0))] rfl ?_
          exact ih (((i167, b167, e167, a167, s167, o167, g167, j167), m5, nm5, bP5, bH5, (inc u5 16), updC l0x5 u5 16 z0166, updC l1x5 u5 16 z1166, updC l2x5 u5 16 z2166, updC l3x5 u5 16 z3166, updC l4x5 u5 16 z4166, updC l5x5 u5 16 z5166), z0166, z1166, z2166, z3166, z4166, z5166) ⟨by rw [← hI, show 400 - k = 400 - (k + 1) + 1 by omega, readR]; rw [if_neg (show ¬ nowC tk (i5, b5, e5, a5, s5, o5, g5, j5) = 41 from hs74), if_neg (show ¬ brkC (i5, b5, e5, a5, s5, o5, g5, j5) = true from (by rw [brkC, h81]; decide)), lineC]; rw [if_neg (show ¬ nowC tk (i5, b5, e5, a5, s5, o5, g5, j5) = 0 from hs91), hR166]; dsimp only; rw [hR167], by omega, by omega, by omega, by omega⟩

