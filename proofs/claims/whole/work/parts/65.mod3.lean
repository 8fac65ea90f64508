set_option maxRecDepth 100000 in
set_option maxHeartbeats 4000000 in
theorem c_X10_shadesNow {Z : GZ} {l : Launch} {mo pl : Nat → Nat} {N : Nat} {th sz ea tk dp lr dy ca ls mn : Int32} {kn : Bool} {hn va : Nat → Int64} {ha hh dz wh bg en od wi al tp kd fr me wo pc ht fs la kh kf kl sh dk sk : Nat → Int32} {i j : Nat} {q : Int32} (hi : i < 12) (hj : j < 12)  : Ct Z l yX10_shadesNow cX10_shadesNow 5 (some .boolean) (rmK 3) [.ref (mo 0), .int (nI i), .int (nI j), .int q] (wMd Z mo pl th sz ea tk dp lr dy ca kn tp kd fr me va wo pc ht fs la kh kf kl sh dk sk ++ wPl Z pl (nI N) ls mn hn ha hh dz wh bg en od wi al) (fun v w => v = some (.int (b2i (snM pc ht fs la i j q))) ∧ w = (wMd Z mo pl th sz ea tk dp lr dy ca kn tp kd fr me va wo pc ht fs la kh kf kl sh dk sk ++ wPl Z pl (nI N) ls mn hn ha hh dz wh bg en od wi al)) := by
  refine Ct.ofJ (own := RX10) (nm := "shadesNow") (lv0 := [(0, .ref (mo 0)), (1, .int (nI i)), (2, .int (nI j)), (3, .int q)]) (by decide) rfl rfl (Nat.le_of_ble_eq_true rfl) rfl (fun X hXl C E => ?_)
  subst hXl
  refine J_iload_n C iX10_shadesNow_0 rfl rfl ?_
  refine J_bipush 12 C iX10_shadesNow_1 rfl ?_
  refine J_icmpge 22 C iX10_shadesNow_3 rfl (fun h3 => ?_) (fun h3 => ?_)
  · refine J_aload_n C iX10_shadesNow_22 rfl rfl ?_
    refine J_get (.ref (mo 7)) 0 C iX10_shadesNow_23 gf_X10_40 rfl rfl ?_
    refine J_iload_n C iX10_shadesNow_26 rfl rfl ?_
    refine J_iald 7 C iX10_shadesNow_27 rfl (vp_in_nI (n := j) (by omega) (by decide)) ?_
    rw [nI_clamp (n := j) (by omega)]
    refine J_aload_n C iX10_shadesNow_28 rfl rfl ?_
    refine J_get (.ref (mo 7)) 0 C iX10_shadesNow_29 gf_X10_40 rfl rfl ?_
    refine J_iload_n C iX10_shadesNow_32 rfl rfl ?_
    refine J_iald 7 C iX10_shadesNow_33 rfl (vp_in_nI (n := i) (by omega) (by decide)) ?_
    rw [nI_clamp (n := i) (by omega)]
    refine J_isub C iX10_shadesNow_34 ?_
    rw [show (pc j) - (pc i) = awM pc i j q from (if_neg (Int32.not_lt.mpr h3)).symm]
    refine J_istore [(4, .int (awM pc i j q)), (0, .ref (mo 0)), (1, .int (nI i)), (2, .int (nI j)), (3, .int q)] C iX10_shadesNow_35 (by decide) rfl ?_
    refine J_iload C iX10_shadesNow_37 rfl ?_
    refine J_ifle 53 C iX10_shadesNow_39 rfl (fun h39 => ?_) (fun h39 => ?_)
    · refine J_iconst 0 C iX10_shadesNow_53 rfl ?_
      exact J_zret C E iX10_shadesNow_54 rfl ⟨by rw [snM, if_pos h39]; rfl, rfl⟩
    · refine J_iload C iX10_shadesNow_42 rfl ?_
      refine J_aload_n C iX10_shadesNow_44 rfl rfl ?_
      refine J_iload_n C iX10_shadesNow_45 rfl rfl ?_
      refine J_iload_n C iX10_shadesNow_46 rfl rfl ?_
      refine J_cVb (As := [.int (nI i), .int q]) (st := .int (awM pc i j q) :: []) (rc2 := (rmK 3).cells) (rs2 := (rmK 3).slots) C iX10_shadesNow_47 lm_X10_93 yc_X10_reach yv_X10_reach (c_X10_reach (i := i) (by omega)) (q0 := 0) rfl rfl rfl [] [] rfl rfl (rmK_le (by omega) (by decide)) (Nat.le_of_ble_eq_true rfl) rfl rfl ?_
      rintro _ _ ⟨rfl, rfl⟩
      refine J_st (.int (tlM ht fs la i q * spM q / 2) :: .int (awM pc i j q) :: []) rfl ?_
      refine J_ws (wMd Z mo pl th sz ea tk dp lr dy ca kn tp kd fr me va wo pc ht fs la kh kf kl sh dk sk ++ wPl Z pl (nI N) ls mn hn ha hh dz wh bg en od wi al) rfl ?_
      refine J_icmple 55 C iX10_shadesNow_50 rfl (fun h50 => ?_) (fun h50 => ?_)
      · refine J_aload_n C iX10_shadesNow_55 rfl rfl ?_
        refine J_iload_n C iX10_shadesNow_56 rfl rfl ?_
        refine J_iload_n C iX10_shadesNow_57 rfl rfl ?_
        refine J_cVb (As := [.int (nI i), .int q]) (st := []) (rc2 := (rmK 3).cells) (rs2 := (rmK 3).slots) C iX10_shadesNow_58 lm_X10_86 yc_X10_tall yv_X10_tall (c_X10_tall (i := i) (by omega)) (q0 := 0) rfl rfl rfl [] [] rfl rfl (rmK_le (by omega) (by decide)) (Nat.le_of_ble_eq_true rfl) rfl rfl ?_
        rintro _ _ ⟨rfl, rfl⟩
        refine J_st (.int (tlM ht fs la i q) :: []) rfl ?_
        refine J_ws (wMd Z mo pl th sz ea tk dp lr dy ca kn tp kd fr me va wo pc ht fs la kh kf kl sh dk sk ++ wPl Z pl (nI N) ls mn hn ha hh dz wh bg en od wi al) rfl ?_
        refine J_iload_n C iX10_shadesNow_61 rfl rfl ?_
        refine J_cSp (As := [.int q]) (st := .int (tlM ht fs la i q) :: []) C iX10_shadesNow_62 lm_X10_90 yc_X10_steps ys_X10_steps (c_X10_steps (q := q)) rfl (rmK_le (by omega) (by decide)) (Nat.le_of_ble_eq_true rfl) ⟨rfl, rfl⟩ ?_
        rintro _ rfl
        refine J_st (.int (spM q) :: .int (tlM ht fs la i q) :: []) rfl ?_
        refine J_imul C iX10_shadesNow_65 ?_
        refine J_iconst 2 C iX10_shadesNow_66 rfl ?_
        refine J_iload C iX10_shadesNow_67 rfl ?_
        refine J_imul C iX10_shadesNow_69 ?_
        refine J_isub C iX10_shadesNow_70 ?_
        refine J_iload_n C iX10_shadesNow_71 rfl rfl ?_
        refine J_cSp (As := [.int q]) (st := .int (((tlM ht fs la i q) * (spM q)) - (2 * (awM pc i j q))) :: []) C iX10_shadesNow_72 lm_X10_90 yc_X10_steps ys_X10_steps (c_X10_steps (q := q)) rfl (rmK_le (by omega) (by decide)) (Nat.le_of_ble_eq_true rfl) ⟨rfl, rfl⟩ ?_
        rintro _ rfl
        refine J_st (.int (spM q) :: .int (((tlM ht fs la i q) * (spM q)) - (2 * (awM pc i j q))) :: []) rfl ?_
        refine J_idiv C iX10_shadesNow_75 (sn_dv h39 (Int32.not_lt.mpr h50)) ?_
        refine J_aload_n C iX10_shadesNow_76 rfl rfl ?_
        refine J_iload_n C iX10_shadesNow_77 rfl rfl ?_
        refine J_iload_n C iX10_shadesNow_78 rfl rfl ?_
        refine J_cVb (As := [.int (nI j), .int q]) (st := .int ((((tlM ht fs la i q) * (spM q)) - (2 * (awM pc i j q))) / (spM q)) :: []) (rc2 := (rmK 3).cells) (rs2 := (rmK 3).slots) C iX10_shadesNow_79 lm_X10_86 yc_X10_tall yv_X10_tall (c_X10_tall (i := j) (by omega)) (q0 := 0) rfl rfl rfl [] [] rfl rfl (rmK_le (by omega) (by decide)) (Nat.le_of_ble_eq_true rfl) rfl rfl ?_
        rintro _ _ ⟨rfl, rfl⟩
        refine J_st (.int (tlM ht fs la j q) :: .int ((((tlM ht fs la i q) * (spM q)) - (2 * (awM pc i j q))) / (spM q)) :: []) rfl ?_
        refine J_ws (wMd Z mo pl th sz ea tk dp lr dy ca kn tp kd fr me va wo pc ht fs la kh kf kl sh dk sk ++ wPl Z pl (nI N) ls mn hn ha hh dz wh bg en od wi al) rfl ?_
        refine J_icmple 89 C iX10_shadesNow_82 rfl (fun h82 => ?_) (fun h82 => ?_)
        · refine J_iconst 0 C iX10_shadesNow_89 rfl ?_
          exact J_zret C E iX10_shadesNow_90 rfl ⟨by rw [snM, if_neg h39, if_neg (Int32.not_lt.mpr h50), decide_eq_false (Int32.not_lt.mpr h82)]; rfl, rfl⟩
        · refine J_iconst 1 C iX10_shadesNow_85 rfl ?_
          refine J_goto 90 C iX10_shadesNow_86 rfl ?_
          exact J_zret C E iX10_shadesNow_90 rfl ⟨by rw [snM, if_neg h39, if_neg (Int32.not_lt.mpr h50), decide_eq_true (Int32.not_le.mp h82)]; rfl, rfl⟩
      · refine J_iconst 0 C iX10_shadesNow_53 rfl ?_
        exact J_zret C E iX10_shadesNow_54 rfl ⟨by rw [snM, if_neg h39, if_pos (Int32.not_le.mp h50)]; rfl, rfl⟩
  · refine J_aload_n C iX10_shadesNow_6 rfl rfl ?_
    refine J_get (.ref (mo 7)) 0 C iX10_shadesNow_7 gf_X10_40 rfl rfl ?_
    refine J_iload_n C iX10_shadesNow_10 rfl rfl ?_
    refine J_iald 7 C iX10_shadesNow_11 rfl (vp_in_nI (n := i) (by omega) (by decide)) ?_
    rw [nI_clamp (n := i) (by omega)]
    refine J_aload_n C iX10_shadesNow_12 rfl rfl ?_
    refine J_get (.ref (mo 7)) 0 C iX10_shadesNow_13 gf_X10_40 rfl rfl ?_
    refine J_iload_n C iX10_shadesNow_16 rfl rfl ?_
    refine J_iald 7 C iX10_shadesNow_17 rfl (vp_in_nI (n := j) (by omega) (by decide)) ?_
    rw [nI_clamp (n := j) (by omega)]
    refine J_isub C iX10_shadesNow_18 ?_
    refine J_goto 35 C iX10_shadesNow_19 rfl ?_
    rw [show (pc i) - (pc j) = awM pc i j q from (if_pos (Int32.not_le.mp h3)).symm]
    refine J_istore [(4, .int (awM pc i j q)), (0, .ref (mo 0)), (1, .int (nI i)), (2, .int (nI j)), (3, .int q)] C iX10_shadesNow_35 (by decide) rfl ?_
    refine J_iload C iX10_shadesNow_37 rfl ?_
    refine J_ifle 53 C iX10_shadesNow_39 rfl (fun h39 => ?_) (fun h39 => ?_)
    · refine J_iconst 0 C iX10_shadesNow_53 rfl ?_
      exact J_zret C E iX10_shadesNow_54 rfl ⟨by rw [snM, if_pos h39]; rfl, rfl⟩
    · refine J_iload C iX10_shadesNow_42 rfl ?_
      refine J_aload_n C iX10_shadesNow_44 rfl rfl ?_
      refine J_iload_n C iX10_shadesNow_45 rfl rfl ?_
      refine J_iload_n C iX10_shadesNow_46 rfl rfl ?_
      refine J_cVb (As := [.int (nI i), .int q]) (st := .int (awM pc i j q) :: []) (rc2 := (rmK 3).cells) (rs2 := (rmK 3).slots) C iX10_shadesNow_47 lm_X10_93 yc_X10_reach yv_X10_reach (c_X10_reach (i := i) (by omega)) (q0 := 0) rfl rfl rfl [] [] rfl rfl (rmK_le (by omega) (by decide)) (Nat.le_of_ble_eq_true rfl) rfl rfl ?_
      rintro _ _ ⟨rfl, rfl⟩
      refine J_st (.int (tlM ht fs la i q * spM q / 2) :: .int (awM pc i j q) :: []) rfl ?_
      refine J_ws (wMd Z mo pl th sz ea tk dp lr dy ca kn tp kd fr me va wo pc ht fs la kh kf kl sh dk sk ++ wPl Z pl (nI N) ls mn hn ha hh dz wh bg en od wi al) rfl ?_
      refine J_icmple 55 C iX10_shadesNow_50 rfl (fun h50 => ?_) (fun h50 => ?_)
      · refine J_aload_n C iX10_shadesNow_55 rfl rfl ?_
        refine J_iload_n C iX10_shadesNow_56 rfl rfl ?_
        refine J_iload_n C iX10_shadesNow_57 rfl rfl ?_
        refine J_cVb (As := [.int (nI i), .int q]) (st := []) (rc2 := (rmK 3).cells) (rs2 := (rmK 3).slots) C iX10_shadesNow_58 lm_X10_86 yc_X10_tall yv_X10_tall (c_X10_tall (i := i) (by omega)) (q0 := 0) rfl rfl rfl [] [] rfl rfl (rmK_le (by omega) (by decide)) (Nat.le_of_ble_eq_true rfl) rfl rfl ?_
        rintro _ _ ⟨rfl, rfl⟩
        refine J_st (.int (tlM ht fs la i q) :: []) rfl ?_
        refine J_ws (wMd Z mo pl th sz ea tk dp lr dy ca kn tp kd fr me va wo pc ht fs la kh kf kl sh dk sk ++ wPl Z pl (nI N) ls mn hn ha hh dz wh bg en od wi al) rfl ?_
        refine J_iload_n C iX10_shadesNow_61 rfl rfl ?_
        refine J_cSp (As := [.int q]) (st := .int (tlM ht fs la i q) :: []) C iX10_shadesNow_62 lm_X10_90 yc_X10_steps ys_X10_steps (c_X10_steps (q := q)) rfl (rmK_le (by omega) (by decide)) (Nat.le_of_ble_eq_true rfl) ⟨rfl, rfl⟩ ?_
        rintro _ rfl
        refine J_st (.int (spM q) :: .int (tlM ht fs la i q) :: []) rfl ?_
        refine J_imul C iX10_shadesNow_65 ?_
        refine J_iconst 2 C iX10_shadesNow_66 rfl ?_
        refine J_iload C iX10_shadesNow_67 rfl ?_
        refine J_imul C iX10_shadesNow_69 ?_
        refine J_isub C iX10_shadesNow_70 ?_
        refine J_iload_n C iX10_shadesNow_71 rfl rfl ?_
        refine J_cSp (As := [.int q]) (st := .int (((tlM ht fs la i q) * (spM q)) - (2 * (awM pc i j q))) :: []) C iX10_shadesNow_72 lm_X10_90 yc_X10_steps ys_X10_steps (c_X10_steps (q := q)) rfl (rmK_le (by omega) (by decide)) (Nat.le_of_ble_eq_true rfl) ⟨rfl, rfl⟩ ?_
        rintro _ rfl
        refine J_st (.int (spM q) :: .int (((tlM ht fs la i q) * (spM q)) - (2 * (awM pc i j q))) :: []) rfl ?_
        refine J_idiv C iX10_shadesNow_75 (sn_dv h39 (Int32.not_lt.mpr h50)) ?_
        refine J_aload_n C iX10_shadesNow_76 rfl rfl ?_
        refine J_iload_n C iX10_shadesNow_77 rfl rfl ?_
        refine J_iload_n C iX10_shadesNow_78 rfl rfl ?_
        refine J_cVb (As := [.int (nI j), .int q]) (st := .int ((((tlM ht fs la i q) * (spM q)) - (2 * (awM pc i j q))) / (spM q)) :: []) (rc2 := (rmK 3).cells) (rs2 := (rmK 3).slots) C iX10_shadesNow_79 lm_X10_86 yc_X10_tall yv_X10_tall (c_X10_tall (i := j) (by omega)) (q0 := 0) rfl rfl rfl [] [] rfl rfl (rmK_le (by omega) (by decide)) (Nat.le_of_ble_eq_true rfl) rfl rfl ?_
        rintro _ _ ⟨rfl, rfl⟩
        refine J_st (.int (tlM ht fs la j q) :: .int ((((tlM ht fs la i q) * (spM q)) - (2 * (awM pc i j q))) / (spM q)) :: []) rfl ?_
        refine J_ws (wMd Z mo pl th sz ea tk dp lr dy ca kn tp kd fr me va wo pc ht fs la kh kf kl sh dk sk ++ wPl Z pl (nI N) ls mn hn ha hh dz wh bg en od wi al) rfl ?_
        refine J_icmple 89 C iX10_shadesNow_82 rfl (fun h82 => ?_) (fun h82 => ?_)
        · refine J_iconst 0 C iX10_shadesNow_89 rfl ?_
          exact J_zret C E iX10_shadesNow_90 rfl ⟨by rw [snM, if_neg h39, if_neg (Int32.not_lt.mpr h50), decide_eq_false (Int32.not_lt.mpr h82)]; rfl, rfl⟩
        · refine J_iconst 1 C iX10_shadesNow_85 rfl ?_
          refine J_goto 90 C iX10_shadesNow_86 rfl ?_
          exact J_zret C E iX10_shadesNow_90 rfl ⟨by rw [snM, if_neg h39, if_neg (Int32.not_lt.mpr h50), decide_eq_true (Int32.not_le.mp h82)]; rfl, rfl⟩
      · refine J_iconst 0 C iX10_shadesNow_53 rfl ?_
        exact J_zret C E iX10_shadesNow_54 rfl ⟨by rw [snM, if_neg h39, if_pos (Int32.not_le.mp h50)]; rfl, rfl⟩

