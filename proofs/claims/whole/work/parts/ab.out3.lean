set_option maxRecDepth 100000 in
set_option maxHeartbeats 4000000 in
theorem c_X10_shades {Z : GZ} {l : Launch} {mo pl : Nat → Nat} {N : Nat} {th sz ea tk dp lr dy ca ls mn : Int32} {kn : Bool} {hn va : Nat → Int64} {ha hh dz wh bg en od wi al tp kd fr me wo pc ht fs la kh kf kl sh dk sk : Nat → Int32} {q : Int32} {r : Int32} {x : Int32} (hN : N ≤ 12) (ok : kn = true → LkOk N pc ht fs la sh dk)  : Ct Z l yX10_shades cX10_shades 4 (some .boolean) (rmK 9) [.ref (mo 0), .int q, .int r, .int x] (wMd Z mo pl th sz ea tk dp lr dy ca kn tp kd fr me va wo pc ht fs la kh kf kl sh dk sk ++ wPl Z pl (nI N) ls mn hn ha hh dz wh bg en od wi al) (fun v w => ∃ kn2 sh2 dk2, (kn2 = true → LkOk N pc ht fs la sh2 dk2) ∧ ((∃ i i2, ((i < N ∧ q = nI i) ∧ (i2 < N ∧ r = nI i2) ∧ ¬ (x < 0 ∨ 24 ≤ x)) ∧ v = some (.int (b2i (decide ((lkM pc ht fs la i2 i >>> (x &&& 31)) &&& 1 = 1)))) ∧ w = (wMd Z mo pl 0 sz ea tk dp lr dy ca kn2 tp kd fr me va wo pc ht fs la kh kf kl sh2 dk2 sk ++ wPl Z pl (nI N) ls mn hn ha hh dz wh bg en od wi al)) ∨ ((¬ (∃ i i2, ((i < N ∧ q = nI i) ∧ (i2 < N ∧ r = nI i2) ∧ ¬ (x < 0 ∨ 24 ≤ x)))) ∧ v = some (.int (b2i (false))) ∧ w = (wMd Z mo pl 1 sz ea tk dp lr dy ca kn2 tp kd fr me va wo pc ht fs la kh kf kl sh2 dk2 sk ++ wPl Z pl (nI N) ls mn hn ha hh dz wh bg en od wi al)))) := by
  refine Ct.ofJ (own := RX10) (nm := "shades") (lv0 := [(0, .ref (mo 0)), (1, .int q), (2, .int r), (3, .int x)]) (by decide) rfl rfl (Nat.le_of_ble_eq_true rfl) rfl (fun X hXl C E => ?_)
  subst hXl
  refine J_aload_n C iX10_shades_0 rfl rfl ?_
  refine J_iconst 0 C iX10_shades_1 rfl ?_
  refine J_put (wMd Z mo pl 0 sz ea tk dp lr dy ca kn tp kd fr me va wo pc ht fs la kh kf kl sh dk sk ++ wPl Z pl (nI N) ls mn hn ha hh dz wh bg en od wi al) 0 C iX10_shades_2 pf_X10_70 rfl rfl rfl (Nat.le_of_ble_eq_true rfl) rfl ?_
  refine J_aload_n C iX10_shades_5 rfl rfl ?_
  refine J_iload_n C iX10_shades_6 rfl rfl ?_
  refine J_cVb (As := [.int q]) (st := []) (rc2 := (rmK 9).cells) (rs2 := (rmK 9).slots) C iX10_shades_7 lm_X10_395 yc_X10_isHouse yv_X10_isHouse (c_X10_isHouse2 (q := q) hN) (q0 := 0) rfl rfl rfl [] [] rfl rfl (rmK_le (by omega) (by decide)) (Nat.le_of_ble_eq_true rfl) rfl rfl ?_
  rintro _ _ (⟨i, h_i, rfl, rfl, rfl⟩ | ⟨no_q, rfl, rfl⟩)
  · refine J_st (.int (b2i true) :: []) rfl ?_
    refine J_ws (wMd Z mo pl 0 sz ea tk dp lr dy ca kn tp kd fr me va wo pc ht fs la kh kf kl sh dk sk ++ wPl Z pl (nI N) ls mn hn ha hh dz wh bg en od wi al) (by simp only [List.append_assoc, List.append_nil, List.nil_append]) ?_
    refine J_ifeqb 38 C iX10_shades_10 rfl (fun h10 => absurd (h10.symm.trans rfl) (by decide)) (fun h10 => ?_)
    refine J_aload_n C iX10_shades_13 rfl rfl ?_
    refine J_iload_n C iX10_shades_14 rfl rfl ?_
    refine J_cVb (As := [.int r]) (st := []) (rc2 := (rmK 9).cells) (rs2 := (rmK 9).slots) C iX10_shades_15 lm_X10_395 yc_X10_isHouse yv_X10_isHouse (c_X10_isHouse2 (q := r) hN) (q0 := 0) rfl rfl rfl [] [] rfl rfl (rmK_le (by omega) (by decide)) (Nat.le_of_ble_eq_true rfl) rfl rfl ?_
    rintro _ _ (⟨i2, h_i2, rfl, rfl, rfl⟩ | ⟨no_r, rfl, rfl⟩)
    · refine J_st (.int (b2i true) :: []) rfl ?_
      refine J_ws (wMd Z mo pl 0 sz ea tk dp lr dy ca kn tp kd fr me va wo pc ht fs la kh kf kl sh dk sk ++ wPl Z pl (nI N) ls mn hn ha hh dz wh bg en od wi al) (by simp only [List.append_assoc, List.append_nil, List.nil_append]) ?_
      refine J_ifeqb 38 C iX10_shades_18 rfl (fun h18 => absurd (h18.symm.trans rfl) (by decide)) (fun h18 => ?_)
      refine J_iload_n C iX10_shades_21 rfl rfl ?_
      refine J_cSb (As := [.int x]) (st := []) (rc2 := (rmK 9).cells) (rs2 := (rmK 9).slots) C iX10_shades_22 lm_X10_405 yc_X10_isHour ys_X10_isHour (c_X10_isHour2 (q := x)) [] (wMd Z mo pl 0 sz ea tk dp lr dy ca kn tp kd fr me va wo pc ht fs la kh kf kl sh dk sk ++ wPl Z pl (nI N) ls mn hn ha hh dz wh bg en od wi al) rfl rfl (rmK_le (by omega) (by decide)) (Nat.le_of_ble_eq_true rfl) rfl rfl ?_
      rintro _ _ (⟨hr_x, rfl, rfl⟩ | ⟨hr_x, rfl, rfl⟩)
      · refine J_st (.int (b2i true) :: []) rfl ?_
        refine J_ws (wMd Z mo pl 0 sz ea tk dp lr dy ca kn tp kd fr me va wo pc ht fs la kh kf kl sh dk sk ++ wPl Z pl (nI N) ls mn hn ha hh dz wh bg en od wi al) (by simp only [List.append_assoc, List.append_nil, List.nil_append]) ?_
        refine J_ifeqb 38 C iX10_shades_25 rfl (fun h25 => absurd (h25.symm.trans rfl) (by decide)) (fun h25 => ?_)
        refine J_aload_n C iX10_shades_28 rfl rfl ?_
        refine J_iload_n C iX10_shades_29 rfl rfl ?_
        refine J_iload_n C iX10_shades_30 rfl rfl ?_
        refine J_iload_n C iX10_shades_31 rfl rfl ?_
        refine J_cVb (As := [.int (nI i2), .int (nI i), .int x]) (st := []) (rc2 := (rmK 9).cells) (rs2 := (rmK 9).slots) C iX10_shades_32 lm_X10_408 yc_X10_isShade yv_X10_isShade (c_X10_isShade hN ok (by omega) (by omega)) (q0 := 0) rfl rfl rfl [] [] rfl rfl (rmK_le (by omega) (by decide)) (Nat.le_of_ble_eq_true rfl) rfl rfl ?_
        rintro _ _ ⟨sh_1, dk_1, rfl, rfl, okk1⟩
        refine J_st (.int (b2i (decide ((lkM pc ht fs la i2 i >>> (x &&& 31)) &&& 1 = 1))) :: []) rfl ?_
        refine J_ws (wMd Z mo pl 0 sz ea tk dp lr dy ca true tp kd fr me va wo pc ht fs la kh kf kl sh_1 dk_1 sk ++ wPl Z pl (nI N) ls mn hn ha hh dz wh bg en od wi al) rfl ?_
        refine J_goto 43 C iX10_shades_35 rfl ?_
        exact J_zret C E iX10_shades_43 nb_b2i ⟨true, sh_1, dk_1, (fun _ => okk1), Or.inl ⟨i, i2, ⟨⟨h_i, rfl⟩, ⟨h_i2, rfl⟩, hr_x⟩, rfl, rfl⟩⟩
      · refine J_st (.int (b2i false) :: []) rfl ?_
        refine J_ws (wMd Z mo pl 0 sz ea tk dp lr dy ca kn tp kd fr me va wo pc ht fs la kh kf kl sh dk sk ++ wPl Z pl (nI N) ls mn hn ha hh dz wh bg en od wi al) (by simp only [List.append_assoc, List.append_nil, List.nil_append]) ?_
        refine J_ifeqb 38 C iX10_shades_25 rfl (fun h25 => ?_) (fun h25 => absurd (h25.symm.trans rfl) (by decide))
        refine J_aload_n C iX10_shades_38 rfl rfl ?_
        refine J_iconst 1 C iX10_shades_39 rfl ?_
        refine J_cVb (As := [.int 1]) (st := []) (rc2 := (rmK 9).cells) (rs2 := (rmK 9).slots) C iX10_shades_40 lm_X10_398 yc_X10_isNot yv_X10_isNot c_X10_isNot (q0 := 0) rfl rfl rfl [] [] rfl rfl (rmK_le (by omega) (by decide)) (Nat.le_of_ble_eq_true rfl) rfl rfl ?_
        rintro _ _ ⟨rfl, rfl⟩
        refine J_st (.int (b2i false) :: []) rfl ?_
        refine J_ws (wMd Z mo pl 1 sz ea tk dp lr dy ca kn tp kd fr me va wo pc ht fs la kh kf kl sh dk sk ++ wPl Z pl (nI N) ls mn hn ha hh dz wh bg en od wi al) rfl ?_
        exact J_zret C E iX10_shades_43 nb_b2i ⟨kn, sh, dk, ok, Or.inr ⟨(fun ⟨i, i2, ⟨p0, p1, p2⟩⟩ => p2 hr_x), rfl, rfl⟩⟩
    · refine J_st (.int (b2i false) :: []) rfl ?_
      refine J_ws (wMd Z mo pl 0 sz ea tk dp lr dy ca kn tp kd fr me va wo pc ht fs la kh kf kl sh dk sk ++ wPl Z pl (nI N) ls mn hn ha hh dz wh bg en od wi al) (by simp only [List.append_assoc, List.append_nil, List.nil_append]) ?_
      refine J_ifeqb 38 C iX10_shades_18 rfl (fun h18 => ?_) (fun h18 => absurd (h18.symm.trans rfl) (by decide))
      refine J_aload_n C iX10_shades_38 rfl rfl ?_
      refine J_iconst 1 C iX10_shades_39 rfl ?_
      refine J_cVb (As := [.int 1]) (st := []) (rc2 := (rmK 9).cells) (rs2 := (rmK 9).slots) C iX10_shades_40 lm_X10_398 yc_X10_isNot yv_X10_isNot c_X10_isNot (q0 := 0) rfl rfl rfl [] [] rfl rfl (rmK_le (by omega) (by decide)) (Nat.le_of_ble_eq_true rfl) rfl rfl ?_
      rintro _ _ ⟨rfl, rfl⟩
      refine J_st (.int (b2i false) :: []) rfl ?_
      refine J_ws (wMd Z mo pl 1 sz ea tk dp lr dy ca kn tp kd fr me va wo pc ht fs la kh kf kl sh dk sk ++ wPl Z pl (nI N) ls mn hn ha hh dz wh bg en od wi al) rfl ?_
      exact J_zret C E iX10_shades_43 nb_b2i ⟨kn, sh, dk, ok, Or.inr ⟨(fun ⟨i, i2, ⟨p0, p1, p2⟩⟩ => no_r ⟨_, p1.1, p1.2⟩), rfl, rfl⟩⟩
  · refine J_st (.int (b2i false) :: []) rfl ?_
    refine J_ws (wMd Z mo pl 0 sz ea tk dp lr dy ca kn tp kd fr me va wo pc ht fs la kh kf kl sh dk sk ++ wPl Z pl (nI N) ls mn hn ha hh dz wh bg en od wi al) (by simp only [List.append_assoc, List.append_nil, List.nil_append]) ?_
    refine J_ifeqb 38 C iX10_shades_10 rfl (fun h10 => ?_) (fun h10 => absurd (h10.symm.trans rfl) (by decide))
    refine J_aload_n C iX10_shades_38 rfl rfl ?_
    refine J_iconst 1 C iX10_shades_39 rfl ?_
    refine J_cVb (As := [.int 1]) (st := []) (rc2 := (rmK 9).cells) (rs2 := (rmK 9).slots) C iX10_shades_40 lm_X10_398 yc_X10_isNot yv_X10_isNot c_X10_isNot (q0 := 0) rfl rfl rfl [] [] rfl rfl (rmK_le (by omega) (by decide)) (Nat.le_of_ble_eq_true rfl) rfl rfl ?_
    rintro _ _ ⟨rfl, rfl⟩
    refine J_st (.int (b2i false) :: []) rfl ?_
    refine J_ws (wMd Z mo pl 1 sz ea tk dp lr dy ca kn tp kd fr me va wo pc ht fs la kh kf kl sh dk sk ++ wPl Z pl (nI N) ls mn hn ha hh dz wh bg en od wi al) rfl ?_
    exact J_zret C E iX10_shades_43 nb_b2i ⟨kn, sh, dk, ok, Or.inr ⟨(fun ⟨i, i2, ⟨p0, p1, p2⟩⟩ => no_q ⟨_, p0.1, p0.2⟩), rfl, rfl⟩⟩

set_option maxRecDepth 100000 in
set_option maxHeartbeats 4000000 in
theorem c_X10_housesInTheDark {Z : GZ} {l : Launch} {mo pl : Nat → Nat} {N : Nat} {th sz ea tk dp lr dy ca ls mn : Int32} {kn : Bool} {hn va : Nat → Int64} {ha hh dz wh bg en od wi al tp kd fr me wo pc ht fs la kh kf kl sh dk sk : Nat → Int32} {x : Int32} (hN : N ≤ 12) (ok : kn = true → LkOk N pc ht fs la sh dk)  : Ct Z l yX10_housesInTheDark cX10_housesInTheDark 2 (some .int) (rmK 9) [.ref (mo 0), .int x] (wMd Z mo pl th sz ea tk dp lr dy ca kn tp kd fr me va wo pc ht fs la kh kf kl sh dk sk ++ wPl Z pl (nI N) ls mn hn ha hh dz wh bg en od wi al) (fun v w => ∃ kn2 sh2 dk2, (kn2 = true → LkOk N pc ht fs la sh2 dk2) ∧ (((¬ (x < 0 ∨ 24 ≤ x)) ∧ v = some (.int (inM (dkM N pc ht fs la) x N)) ∧ w = (wMd Z mo pl 0 sz ea tk dp lr dy ca kn2 tp kd fr me va wo pc ht fs la kh kf kl sh2 dk2 sk ++ wPl Z pl (nI N) ls mn hn ha hh dz wh bg en od wi al)) ∨ ((¬ (¬ (x < 0 ∨ 24 ≤ x))) ∧ v = some (.int (0)) ∧ w = (wMd Z mo pl 1 sz ea tk dp lr dy ca kn2 tp kd fr me va wo pc ht fs la kh kf kl sh2 dk2 sk ++ wPl Z pl (nI N) ls mn hn ha hh dz wh bg en od wi al)))) := by
  refine Ct.ofJ (own := RX10) (nm := "housesInTheDark") (lv0 := [(0, .ref (mo 0)), (1, .int x)]) (by decide) rfl rfl (Nat.le_of_ble_eq_true rfl) rfl (fun X hXl C E => ?_)
  subst hXl
  refine J_aload_n C iX10_housesInTheDark_0 rfl rfl ?_
  refine J_iconst 0 C iX10_housesInTheDark_1 rfl ?_
  refine J_put (wMd Z mo pl 0 sz ea tk dp lr dy ca kn tp kd fr me va wo pc ht fs la kh kf kl sh dk sk ++ wPl Z pl (nI N) ls mn hn ha hh dz wh bg en od wi al) 0 C iX10_housesInTheDark_2 pf_X10_70 rfl rfl rfl (Nat.le_of_ble_eq_true rfl) rfl ?_
  refine J_iload_n C iX10_housesInTheDark_5 rfl rfl ?_
  refine J_cSb (As := [.int x]) (st := []) (rc2 := (rmK 9).cells) (rs2 := (rmK 9).slots) C iX10_housesInTheDark_6 lm_X10_405 yc_X10_isHour ys_X10_isHour (c_X10_isHour2 (q := x)) [] (wMd Z mo pl 0 sz ea tk dp lr dy ca kn tp kd fr me va wo pc ht fs la kh kf kl sh dk sk ++ wPl Z pl (nI N) ls mn hn ha hh dz wh bg en od wi al) rfl rfl (rmK_le (by omega) (by decide)) (Nat.le_of_ble_eq_true rfl) rfl rfl ?_
  rintro _ _ (⟨hr_x, rfl, rfl⟩ | ⟨hr_x, rfl, rfl⟩)
  · refine J_st (.int (b2i true) :: []) rfl ?_
    refine J_ws (wMd Z mo pl 0 sz ea tk dp lr dy ca kn tp kd fr me va wo pc ht fs la kh kf kl sh dk sk ++ wPl Z pl (nI N) ls mn hn ha hh dz wh bg en od wi al) (by simp only [List.append_assoc, List.append_nil, List.nil_append]) ?_
    refine J_ifeqb 20 C iX10_housesInTheDark_9 rfl (fun h9 => absurd (h9.symm.trans rfl) (by decide)) (fun h9 => ?_)
    refine J_aload_n C iX10_housesInTheDark_12 rfl rfl ?_
    refine J_iload_n C iX10_housesInTheDark_13 rfl rfl ?_
    refine J_cVb (As := [.int x]) (st := []) (rc2 := (rmK 9).cells) (rs2 := (rmK 9).slots) C iX10_housesInTheDark_14 lm_X10_411 yc_X10_inTheDark yv_X10_inTheDark (c_X10_inTheDark hN ok) (q0 := 0) rfl rfl rfl [] [] rfl rfl (rmK_le (by omega) (by decide)) (Nat.le_of_ble_eq_true rfl) rfl rfl ?_
    rintro _ _ ⟨sh_1, dk_1, rfl, rfl, okk1⟩
    refine J_st (.int (inM (dkM N pc ht fs la) x N) :: []) rfl ?_
    refine J_ws (wMd Z mo pl 0 sz ea tk dp lr dy ca true tp kd fr me va wo pc ht fs la kh kf kl sh_1 dk_1 sk ++ wPl Z pl (nI N) ls mn hn ha hh dz wh bg en od wi al) rfl ?_
    refine J_goto 25 C iX10_housesInTheDark_17 rfl ?_
    exact J_iret C E iX10_housesInTheDark_25 ⟨true, sh_1, dk_1, (fun _ => okk1), Or.inl ⟨hr_x, rfl, rfl⟩⟩
  · refine J_st (.int (b2i false) :: []) rfl ?_
    refine J_ws (wMd Z mo pl 0 sz ea tk dp lr dy ca kn tp kd fr me va wo pc ht fs la kh kf kl sh dk sk ++ wPl Z pl (nI N) ls mn hn ha hh dz wh bg en od wi al) (by simp only [List.append_assoc, List.append_nil, List.nil_append]) ?_
    refine J_ifeqb 20 C iX10_housesInTheDark_9 rfl (fun h9 => ?_) (fun h9 => absurd (h9.symm.trans rfl) (by decide))
    refine J_aload_n C iX10_housesInTheDark_20 rfl rfl ?_
    refine J_iconst 1 C iX10_housesInTheDark_21 rfl ?_
    refine J_cVb (As := [.int 1]) (st := []) (rc2 := (rmK 9).cells) (rs2 := (rmK 9).slots) C iX10_housesInTheDark_22 lm_X10_380 yc_X10_no yv_X10_no c_X10_no (q0 := 0) rfl rfl rfl [] [] rfl rfl (rmK_le (by omega) (by decide)) (Nat.le_of_ble_eq_true rfl) rfl rfl ?_
    rintro _ _ ⟨rfl, rfl⟩
    refine J_st (.int 0 :: []) rfl ?_
    refine J_ws (wMd Z mo pl 1 sz ea tk dp lr dy ca kn tp kd fr me va wo pc ht fs la kh kf kl sh dk sk ++ wPl Z pl (nI N) ls mn hn ha hh dz wh bg en od wi al) rfl ?_
    exact J_iret C E iX10_housesInTheDark_25 ⟨kn, sh, dk, ok, Or.inr ⟨(fun p0 => p0 hr_x), rfl, rfl⟩⟩

set_option maxRecDepth 100000 in
set_option maxHeartbeats 4000000 in
theorem c_X10_isInTheDark {Z : GZ} {l : Launch} {mo pl : Nat → Nat} {N : Nat} {th sz ea tk dp lr dy ca ls mn : Int32} {kn : Bool} {hn va : Nat → Int64} {ha hh dz wh bg en od wi al tp kd fr me wo pc ht fs la kh kf kl sh dk sk : Nat → Int32} {q : Int32} {x : Int32} (hN : N ≤ 12) (ok : kn = true → LkOk N pc ht fs la sh dk)  : Ct Z l yX10_isInTheDark cX10_isInTheDark 3 (some .boolean) (rmK 9) [.ref (mo 0), .int q, .int x] (wMd Z mo pl th sz ea tk dp lr dy ca kn tp kd fr me va wo pc ht fs la kh kf kl sh dk sk ++ wPl Z pl (nI N) ls mn hn ha hh dz wh bg en od wi al) (fun v w => ∃ kn2 sh2 dk2, (kn2 = true → LkOk N pc ht fs la sh2 dk2) ∧ ((∃ i, ((i < N ∧ q = nI i) ∧ ¬ (x < 0 ∨ 24 ≤ x)) ∧ v = some (.int (b2i (decide ((dkM N pc ht fs la i >>> (x &&& 31)) &&& 1 = 1)))) ∧ w = (wMd Z mo pl 0 sz ea tk dp lr dy ca kn2 tp kd fr me va wo pc ht fs la kh kf kl sh2 dk2 sk ++ wPl Z pl (nI N) ls mn hn ha hh dz wh bg en od wi al)) ∨ ((¬ (∃ i, ((i < N ∧ q = nI i) ∧ ¬ (x < 0 ∨ 24 ≤ x)))) ∧ v = some (.int (b2i (false))) ∧ w = (wMd Z mo pl 1 sz ea tk dp lr dy ca kn2 tp kd fr me va wo pc ht fs la kh kf kl sh2 dk2 sk ++ wPl Z pl (nI N) ls mn hn ha hh dz wh bg en od wi al)))) := by
  refine Ct.ofJ (own := RX10) (nm := "isInTheDark") (lv0 := [(0, .ref (mo 0)), (1, .int q), (2, .int x)]) (by decide) rfl rfl (Nat.le_of_ble_eq_true rfl) rfl (fun X hXl C E => ?_)
  subst hXl
  refine J_aload_n C iX10_isInTheDark_0 rfl rfl ?_
  refine J_iconst 0 C iX10_isInTheDark_1 rfl ?_
  refine J_put (wMd Z mo pl 0 sz ea tk dp lr dy ca kn tp kd fr me va wo pc ht fs la kh kf kl sh dk sk ++ wPl Z pl (nI N) ls mn hn ha hh dz wh bg en od wi al) 0 C iX10_isInTheDark_2 pf_X10_70 rfl rfl rfl (Nat.le_of_ble_eq_true rfl) rfl ?_
  refine J_aload_n C iX10_isInTheDark_5 rfl rfl ?_
  refine J_iload_n C iX10_isInTheDark_6 rfl rfl ?_
  refine J_cVb (As := [.int q]) (st := []) (rc2 := (rmK 9).cells) (rs2 := (rmK 9).slots) C iX10_isInTheDark_7 lm_X10_395 yc_X10_isHouse yv_X10_isHouse (c_X10_isHouse2 (q := q) hN) (q0 := 0) rfl rfl rfl [] [] rfl rfl (rmK_le (by omega) (by decide)) (Nat.le_of_ble_eq_true rfl) rfl rfl ?_
  rintro _ _ (⟨i, h_i, rfl, rfl, rfl⟩ | ⟨no_q, rfl, rfl⟩)
  · refine J_st (.int (b2i true) :: []) rfl ?_
    refine J_ws (wMd Z mo pl 0 sz ea tk dp lr dy ca kn tp kd fr me va wo pc ht fs la kh kf kl sh dk sk ++ wPl Z pl (nI N) ls mn hn ha hh dz wh bg en od wi al) (by simp only [List.append_assoc, List.append_nil, List.nil_append]) ?_
    refine J_ifeqb 20 C iX10_isInTheDark_10 rfl (fun h10 => absurd (h10.symm.trans rfl) (by decide)) (fun h10 => ?_)
    refine J_iload_n C iX10_isInTheDark_13 rfl rfl ?_
    refine J_cSb (As := [.int x]) (st := []) (rc2 := (rmK 9).cells) (rs2 := (rmK 9).slots) C iX10_isInTheDark_14 lm_X10_405 yc_X10_isHour ys_X10_isHour (c_X10_isHour2 (q := x)) [] (wMd Z mo pl 0 sz ea tk dp lr dy ca kn tp kd fr me va wo pc ht fs la kh kf kl sh dk sk ++ wPl Z pl (nI N) ls mn hn ha hh dz wh bg en od wi al) rfl rfl (rmK_le (by omega) (by decide)) (Nat.le_of_ble_eq_true rfl) rfl rfl ?_
    rintro _ _ (⟨hr_x, rfl, rfl⟩ | ⟨hr_x, rfl, rfl⟩)
    · refine J_st (.int (b2i true) :: []) rfl ?_
      refine J_ws (wMd Z mo pl 0 sz ea tk dp lr dy ca kn tp kd fr me va wo pc ht fs la kh kf kl sh dk sk ++ wPl Z pl (nI N) ls mn hn ha hh dz wh bg en od wi al) (by simp only [List.append_assoc, List.append_nil, List.nil_append]) ?_
      refine J_ifneb 26 C iX10_isInTheDark_17 rfl (fun h17 => ?_) (fun h17 => absurd (h17.symm.trans rfl) (by decide))
      refine J_aload_n C iX10_isInTheDark_26 rfl rfl ?_
      refine J_cVb (As := []) (st := []) (rc2 := (rmK 9).cells) (rs2 := (rmK 9).slots) C iX10_isInTheDark_27 lm_X10_107 yc_X10_look yv_X10_look (c_X10_look hN ok) (q0 := 0) rfl rfl rfl [] [] rfl rfl (rmK_le (by omega) (by decide)) (Nat.le_of_ble_eq_true rfl) rfl rfl ?_
      rintro _ _ ⟨sh_1, dk_1, rfl, rfl, okk1⟩
      refine J_st ([]) rfl ?_
      refine J_ws (wMd Z mo pl 0 sz ea tk dp lr dy ca true tp kd fr me va wo pc ht fs la kh kf kl sh_1 dk_1 sk ++ wPl Z pl (nI N) ls mn hn ha hh dz wh bg en od wi al) rfl ?_
      refine J_aload_n C iX10_isInTheDark_30 rfl rfl ?_
      refine J_get (.ref (mo 15)) 0 C iX10_isInTheDark_31 gf_X10_64 rfl rfl ?_
      refine J_iload_n C iX10_isInTheDark_34 rfl rfl ?_
      refine J_iald 15 C iX10_isInTheDark_35 rfl (vp_in_nI (n := i) (by omega) (by decide)) ?_
      rw [nI_clamp (n := i) (by omega)]
      refine J_iload_n C iX10_isInTheDark_36 rfl rfl ?_
      refine J_ishr C iX10_isInTheDark_37 ?_
      refine J_iconst 1 C iX10_isInTheDark_38 rfl ?_
      refine J_iand C iX10_isInTheDark_39 ?_
      refine J_iconst 1 C iX10_isInTheDark_40 rfl ?_
      refine J_icmpne 48 C iX10_isInTheDark_41 rfl (fun h41 => ?_) (fun h41 => ?_)
      · refine J_iconst 0 C iX10_isInTheDark_48 rfl ?_
        exact J_zret C E iX10_isInTheDark_49 rfl ⟨true, sh_1, dk_1, (fun _ => okk1), Or.inl ⟨i, ⟨⟨h_i, rfl⟩, hr_x⟩, by rw [show dkM N pc ht fs la i = dk_1 i from (okk1.2 i h_i).symm]; simp [h41, b2i], rfl⟩⟩
      · refine J_iconst 1 C iX10_isInTheDark_44 rfl ?_
        refine J_goto 49 C iX10_isInTheDark_45 rfl ?_
        exact J_zret C E iX10_isInTheDark_49 rfl ⟨true, sh_1, dk_1, (fun _ => okk1), Or.inl ⟨i, ⟨⟨h_i, rfl⟩, hr_x⟩, by rw [show dkM N pc ht fs la i = dk_1 i from (okk1.2 i h_i).symm]; simp [h41, b2i], rfl⟩⟩
    · refine J_st (.int (b2i false) :: []) rfl ?_
      refine J_ws (wMd Z mo pl 0 sz ea tk dp lr dy ca kn tp kd fr me va wo pc ht fs la kh kf kl sh dk sk ++ wPl Z pl (nI N) ls mn hn ha hh dz wh bg en od wi al) (by simp only [List.append_assoc, List.append_nil, List.nil_append]) ?_
      refine J_ifneb 26 C iX10_isInTheDark_17 rfl (fun h17 => absurd (h17.symm.trans rfl) (by decide)) (fun h17 => ?_)
      refine J_aload_n C iX10_isInTheDark_20 rfl rfl ?_
      refine J_iconst 1 C iX10_isInTheDark_21 rfl ?_
      refine J_cVb (As := [.int 1]) (st := []) (rc2 := (rmK 9).cells) (rs2 := (rmK 9).slots) C iX10_isInTheDark_22 lm_X10_398 yc_X10_isNot yv_X10_isNot c_X10_isNot (q0 := 0) rfl rfl rfl [] [] rfl rfl (rmK_le (by omega) (by decide)) (Nat.le_of_ble_eq_true rfl) rfl rfl ?_
      rintro _ _ ⟨rfl, rfl⟩
      refine J_st (.int (b2i false) :: []) rfl ?_
      refine J_ws (wMd Z mo pl 1 sz ea tk dp lr dy ca kn tp kd fr me va wo pc ht fs la kh kf kl sh dk sk ++ wPl Z pl (nI N) ls mn hn ha hh dz wh bg en od wi al) rfl ?_
      exact J_zret C E iX10_isInTheDark_25 nb_b2i ⟨kn, sh, dk, ok, Or.inr ⟨(fun ⟨i, ⟨p0, p1⟩⟩ => p1 hr_x), rfl, rfl⟩⟩
  · refine J_st (.int (b2i false) :: []) rfl ?_
    refine J_ws (wMd Z mo pl 0 sz ea tk dp lr dy ca kn tp kd fr me va wo pc ht fs la kh kf kl sh dk sk ++ wPl Z pl (nI N) ls mn hn ha hh dz wh bg en od wi al) (by simp only [List.append_assoc, List.append_nil, List.nil_append]) ?_
    refine J_ifeqb 20 C iX10_isInTheDark_10 rfl (fun h10 => ?_) (fun h10 => absurd (h10.symm.trans rfl) (by decide))
    refine J_aload_n C iX10_isInTheDark_20 rfl rfl ?_
    refine J_iconst 1 C iX10_isInTheDark_21 rfl ?_
    refine J_cVb (As := [.int 1]) (st := []) (rc2 := (rmK 9).cells) (rs2 := (rmK 9).slots) C iX10_isInTheDark_22 lm_X10_398 yc_X10_isNot yv_X10_isNot c_X10_isNot (q0 := 0) rfl rfl rfl [] [] rfl rfl (rmK_le (by omega) (by decide)) (Nat.le_of_ble_eq_true rfl) rfl rfl ?_
    rintro _ _ ⟨rfl, rfl⟩
    refine J_st (.int (b2i false) :: []) rfl ?_
    refine J_ws (wMd Z mo pl 1 sz ea tk dp lr dy ca kn tp kd fr me va wo pc ht fs la kh kf kl sh dk sk ++ wPl Z pl (nI N) ls mn hn ha hh dz wh bg en od wi al) rfl ?_
    exact J_zret C E iX10_isInTheDark_25 nb_b2i ⟨kn, sh, dk, ok, Or.inr ⟨(fun ⟨i, ⟨p0, p1⟩⟩ => no_q ⟨_, p0.1, p0.2⟩), rfl, rfl⟩⟩

set_option maxRecDepth 100000 in
set_option maxHeartbeats 4000000 in
theorem c_X10_errorAt {Z : GZ} {l : Launch} {mo pl : Nat → Nat} {N : Nat} {th sz ea tk dp lr dy ca ls mn : Int32} {kn : Bool} {hn va : Nat → Int64} {ha hh dz wh bg en od wi al tp kd fr me wo pc ht fs la kh kf kl sh dk sk : Nat → Int32} (hN : N ≤ 12) (ok : kn = true → LkOk N pc ht fs la sh dk)  : Ct Z l yX10_errorAt cX10_errorAt 1 (some .int) (rmK 9) [.ref (mo 0)] (wMd Z mo pl th sz ea tk dp lr dy ca kn tp kd fr me va wo pc ht fs la kh kf kl sh dk sk ++ wPl Z pl (nI N) ls mn hn ha hh dz wh bg en od wi al) (fun v w => ∃ kn2 sh2 dk2, (kn2 = true → LkOk N pc ht fs la sh2 dk2) ∧ v = some (.int (ea)) ∧ w = (wMd Z mo pl 0 sz ea tk dp lr dy ca kn2 tp kd fr me va wo pc ht fs la kh kf kl sh2 dk2 sk ++ wPl Z pl (nI N) ls mn hn ha hh dz wh bg en od wi al)) := by
  refine Ct.ofJ (own := RX10) (nm := "errorAt") (lv0 := [(0, .ref (mo 0))]) (by decide) rfl rfl (Nat.le_of_ble_eq_true rfl) rfl (fun X hXl C E => ?_)
  subst hXl
  refine J_aload_n C iX10_errorAt_0 rfl rfl ?_
  refine J_aload_n C iX10_errorAt_1 rfl rfl ?_
  refine J_get (.int ea) 0 C iX10_errorAt_2 gf_X10_13 rfl rfl ?_
  refine J_cVb (As := [.int ea]) (st := []) (rc2 := (rmK 9).cells) (rs2 := (rmK 9).slots) C iX10_errorAt_5 lm_X10_386 yc_X10_ok yv_X10_ok c_X10_ok (q0 := 0) rfl rfl rfl [] [] rfl rfl (rmK_le (by omega) (by decide)) (Nat.le_of_ble_eq_true rfl) rfl rfl ?_
  rintro _ _ ⟨rfl, rfl⟩
  refine J_st (.int ea :: []) rfl ?_
  refine J_ws (wMd Z mo pl 0 sz ea tk dp lr dy ca kn tp kd fr me va wo pc ht fs la kh kf kl sh dk sk ++ wPl Z pl (nI N) ls mn hn ha hh dz wh bg en od wi al) rfl ?_
  exact J_iret C E iX10_errorAt_8 ⟨kn, sh, dk, ok, rfl, rfl⟩

set_option maxRecDepth 100000 in
set_option maxHeartbeats 4000000 in
theorem c_X10_houses {Z : GZ} {l : Launch} {mo pl : Nat → Nat} {N : Nat} {th sz ea tk dp lr dy ca ls mn : Int32} {kn : Bool} {hn va : Nat → Int64} {ha hh dz wh bg en od wi al tp kd fr me wo pc ht fs la kh kf kl sh dk sk : Nat → Int32} (hN : N ≤ 12) (ok : kn = true → LkOk N pc ht fs la sh dk)  : Ct Z l yX10_houses cX10_houses 1 (some .int) (rmK 9) [.ref (mo 0)] (wMd Z mo pl th sz ea tk dp lr dy ca kn tp kd fr me va wo pc ht fs la kh kf kl sh dk sk ++ wPl Z pl (nI N) ls mn hn ha hh dz wh bg en od wi al) (fun v w => ∃ kn2 sh2 dk2, (kn2 = true → LkOk N pc ht fs la sh2 dk2) ∧ v = some (.int (nI N)) ∧ w = (wMd Z mo pl 0 sz ea tk dp lr dy ca kn2 tp kd fr me va wo pc ht fs la kh kf kl sh2 dk2 sk ++ wPl Z pl (nI N) ls mn hn ha hh dz wh bg en od wi al)) := by
  refine Ct.ofJ (own := RX10) (nm := "houses") (lv0 := [(0, .ref (mo 0))]) (by decide) rfl rfl (Nat.le_of_ble_eq_true rfl) rfl (fun X hXl C E => ?_)
  subst hXl
  refine J_aload_n C iX10_houses_0 rfl rfl ?_
  refine J_aload_n C iX10_houses_1 rfl rfl ?_
  refine J_get (.ref (pl 0)) 0 C iX10_houses_2 gf_X10_20 rfl rfl ?_
  refine J_get (.int (nI N)) 17 C iX10_houses_5 gf_X10_73 rfl rfl ?_
  refine J_cVb (As := [.int (nI N)]) (st := []) (rc2 := (rmK 9).cells) (rs2 := (rmK 9).slots) C iX10_houses_8 lm_X10_386 yc_X10_ok yv_X10_ok c_X10_ok (q0 := 0) rfl rfl rfl [] [] rfl rfl (rmK_le (by omega) (by decide)) (Nat.le_of_ble_eq_true rfl) rfl rfl ?_
  rintro _ _ ⟨rfl, rfl⟩
  refine J_st (.int (nI N) :: []) rfl ?_
  refine J_ws (wMd Z mo pl 0 sz ea tk dp lr dy ca kn tp kd fr me va wo pc ht fs la kh kf kl sh dk sk ++ wPl Z pl (nI N) ls mn hn ha hh dz wh bg en od wi al) rfl ?_
  exact J_iret C E iX10_houses_11 ⟨kn, sh, dk, ok, rfl, rfl⟩

set_option maxRecDepth 100000 in
set_option maxHeartbeats 4000000 in
theorem c_X10_laws {Z : GZ} {l : Launch} {mo pl : Nat → Nat} {N : Nat} {th sz ea tk dp lr dy ca ls mn : Int32} {kn : Bool} {hn va : Nat → Int64} {ha hh dz wh bg en od wi al tp kd fr me wo pc ht fs la kh kf kl sh dk sk : Nat → Int32} (hN : N ≤ 12) (ok : kn = true → LkOk N pc ht fs la sh dk)  : Ct Z l yX10_laws cX10_laws 1 (some .int) (rmK 9) [.ref (mo 0)] (wMd Z mo pl th sz ea tk dp lr dy ca kn tp kd fr me va wo pc ht fs la kh kf kl sh dk sk ++ wPl Z pl (nI N) ls mn hn ha hh dz wh bg en od wi al) (fun v w => ∃ kn2 sh2 dk2, (kn2 = true → LkOk N pc ht fs la sh2 dk2) ∧ v = some (.int (ls)) ∧ w = (wMd Z mo pl 0 sz ea tk dp lr dy ca kn2 tp kd fr me va wo pc ht fs la kh kf kl sh2 dk2 sk ++ wPl Z pl (nI N) ls mn hn ha hh dz wh bg en od wi al)) := by
  refine Ct.ofJ (own := RX10) (nm := "laws") (lv0 := [(0, .ref (mo 0))]) (by decide) rfl rfl (Nat.le_of_ble_eq_true rfl) rfl (fun X hXl C E => ?_)
  subst hXl
  refine J_aload_n C iX10_laws_0 rfl rfl ?_
  refine J_aload_n C iX10_laws_1 rfl rfl ?_
  refine J_get (.ref (pl 0)) 0 C iX10_laws_2 gf_X10_20 rfl rfl ?_
  refine J_get (.int ls) 17 C iX10_laws_5 gf_X10_179 rfl rfl ?_
  refine J_cVb (As := [.int ls]) (st := []) (rc2 := (rmK 9).cells) (rs2 := (rmK 9).slots) C iX10_laws_8 lm_X10_386 yc_X10_ok yv_X10_ok c_X10_ok (q0 := 0) rfl rfl rfl [] [] rfl rfl (rmK_le (by omega) (by decide)) (Nat.le_of_ble_eq_true rfl) rfl rfl ?_
  rintro _ _ ⟨rfl, rfl⟩
  refine J_st (.int ls :: []) rfl ?_
  refine J_ws (wMd Z mo pl 0 sz ea tk dp lr dy ca kn tp kd fr me va wo pc ht fs la kh kf kl sh dk sk ++ wPl Z pl (nI N) ls mn hn ha hh dz wh bg en od wi al) rfl ?_
  exact J_iret C E iX10_laws_11 ⟨kn, sh, dk, ok, rfl, rfl⟩

set_option maxRecDepth 100000 in
set_option maxHeartbeats 4000000 in
theorem c_X10_days {Z : GZ} {l : Launch} {mo pl : Nat → Nat} {N : Nat} {th sz ea tk dp lr dy ca ls mn : Int32} {kn : Bool} {hn va : Nat → Int64} {ha hh dz wh bg en od wi al tp kd fr me wo pc ht fs la kh kf kl sh dk sk : Nat → Int32} (hN : N ≤ 12) (ok : kn = true → LkOk N pc ht fs la sh dk)  : Ct Z l yX10_days cX10_days 1 (some .int) (rmK 9) [.ref (mo 0)] (wMd Z mo pl th sz ea tk dp lr dy ca kn tp kd fr me va wo pc ht fs la kh kf kl sh dk sk ++ wPl Z pl (nI N) ls mn hn ha hh dz wh bg en od wi al) (fun v w => ∃ kn2 sh2 dk2, (kn2 = true → LkOk N pc ht fs la sh2 dk2) ∧ v = some (.int (dy)) ∧ w = (wMd Z mo pl 0 sz ea tk dp lr dy ca kn2 tp kd fr me va wo pc ht fs la kh kf kl sh2 dk2 sk ++ wPl Z pl (nI N) ls mn hn ha hh dz wh bg en od wi al)) := by
  refine Ct.ofJ (own := RX10) (nm := "days") (lv0 := [(0, .ref (mo 0))]) (by decide) rfl rfl (Nat.le_of_ble_eq_true rfl) rfl (fun X hXl C E => ?_)
  subst hXl
  refine J_aload_n C iX10_days_0 rfl rfl ?_
  refine J_aload_n C iX10_days_1 rfl rfl ?_
  refine J_get (.int dy) 0 C iX10_days_2 gf_X10_127 rfl rfl ?_
  refine J_cVb (As := [.int dy]) (st := []) (rc2 := (rmK 9).cells) (rs2 := (rmK 9).slots) C iX10_days_5 lm_X10_386 yc_X10_ok yv_X10_ok c_X10_ok (q0 := 0) rfl rfl rfl [] [] rfl rfl (rmK_le (by omega) (by decide)) (Nat.le_of_ble_eq_true rfl) rfl rfl ?_
  rintro _ _ ⟨rfl, rfl⟩
  refine J_st (.int dy :: []) rfl ?_
  refine J_ws (wMd Z mo pl 0 sz ea tk dp lr dy ca kn tp kd fr me va wo pc ht fs la kh kf kl sh dk sk ++ wPl Z pl (nI N) ls mn hn ha hh dz wh bg en od wi al) rfl ?_
  exact J_iret C E iX10_days_8 ⟨kn, sh, dk, ok, rfl, rfl⟩

set_option maxRecDepth 100000 in
set_option maxHeartbeats 4000000 in
theorem c_X10_lawsCarriedOut {Z : GZ} {l : Launch} {mo pl : Nat → Nat} {N : Nat} {th sz ea tk dp lr dy ca ls mn : Int32} {kn : Bool} {hn va : Nat → Int64} {ha hh dz wh bg en od wi al tp kd fr me wo pc ht fs la kh kf kl sh dk sk : Nat → Int32} (hN : N ≤ 12) (ok : kn = true → LkOk N pc ht fs la sh dk)  : Ct Z l yX10_lawsCarriedOut cX10_lawsCarriedOut 1 (some .int) (rmK 9) [.ref (mo 0)] (wMd Z mo pl th sz ea tk dp lr dy ca kn tp kd fr me va wo pc ht fs la kh kf kl sh dk sk ++ wPl Z pl (nI N) ls mn hn ha hh dz wh bg en od wi al) (fun v w => ∃ kn2 sh2 dk2, (kn2 = true → LkOk N pc ht fs la sh2 dk2) ∧ v = some (.int (ca)) ∧ w = (wMd Z mo pl 0 sz ea tk dp lr dy ca kn2 tp kd fr me va wo pc ht fs la kh kf kl sh2 dk2 sk ++ wPl Z pl (nI N) ls mn hn ha hh dz wh bg en od wi al)) := by
  refine Ct.ofJ (own := RX10) (nm := "lawsCarriedOut") (lv0 := [(0, .ref (mo 0))]) (by decide) rfl rfl (Nat.le_of_ble_eq_true rfl) rfl (fun X hXl C E => ?_)
  subst hXl
  refine J_aload_n C iX10_lawsCarriedOut_0 rfl rfl ?_
  refine J_aload_n C iX10_lawsCarriedOut_1 rfl rfl ?_
  refine J_get (.int ca) 0 C iX10_lawsCarriedOut_2 gf_X10_130 rfl rfl ?_
  refine J_cVb (As := [.int ca]) (st := []) (rc2 := (rmK 9).cells) (rs2 := (rmK 9).slots) C iX10_lawsCarriedOut_5 lm_X10_386 yc_X10_ok yv_X10_ok c_X10_ok (q0 := 0) rfl rfl rfl [] [] rfl rfl (rmK_le (by omega) (by decide)) (Nat.le_of_ble_eq_true rfl) rfl rfl ?_
  rintro _ _ ⟨rfl, rfl⟩
  refine J_st (.int ca :: []) rfl ?_
  refine J_ws (wMd Z mo pl 0 sz ea tk dp lr dy ca kn tp kd fr me va wo pc ht fs la kh kf kl sh dk sk ++ wPl Z pl (nI N) ls mn hn ha hh dz wh bg en od wi al) rfl ?_
  exact J_iret C E iX10_lawsCarriedOut_8 ⟨kn, sh, dk, ok, rfl, rfl⟩

set_option maxRecDepth 100000 in
set_option maxHeartbeats 4000000 in
theorem c_X10_allHoursLost {Z : GZ} {l : Launch} {mo pl : Nat → Nat} {N : Nat} {th sz ea tk dp lr dy ca ls mn : Int32} {kn : Bool} {hn va : Nat → Int64} {ha hh dz wh bg en od wi al tp kd fr me wo pc ht fs la kh kf kl sh dk sk : Nat → Int32} (hN : N ≤ 12) (ok : kn = true → LkOk N pc ht fs la sh dk)  : Ct Z l yX10_allHoursLost cX10_allHoursLost 1 (some .int) (rmK 9) [.ref (mo 0)] (wMd Z mo pl th sz ea tk dp lr dy ca kn tp kd fr me va wo pc ht fs la kh kf kl sh dk sk ++ wPl Z pl (nI N) ls mn hn ha hh dz wh bg en od wi al) (fun v w => ∃ kn2 sh2 dk2, (kn2 = true → LkOk N pc ht fs la sh2 dk2) ∧ v = some (.int (alM N pc ht fs la)) ∧ w = (wMd Z mo pl 0 sz ea tk dp lr dy ca kn2 tp kd fr me va wo pc ht fs la kh kf kl sh2 dk2 sk ++ wPl Z pl (nI N) ls mn hn ha hh dz wh bg en od wi al)) := by
  refine Ct.ofJ (own := RX10) (nm := "allHoursLost") (lv0 := [(0, .ref (mo 0))]) (by decide) rfl rfl (Nat.le_of_ble_eq_true rfl) rfl (fun X hXl C E => ?_)
  subst hXl
  refine J_aload_n C iX10_allHoursLost_0 rfl rfl ?_
  refine J_aload_n C iX10_allHoursLost_1 rfl rfl ?_
  refine J_cVb (As := []) (st := .ref (mo 0) :: []) (rc2 := (rmK 9).cells) (rs2 := (rmK 9).slots) C iX10_allHoursLost_2 lm_X10_389 yc_X10_allLost yv_X10_allLost (c_X10_allLost hN ok) (q0 := 0) rfl rfl rfl [] [] rfl rfl (rmK_le (by omega) (by decide)) (Nat.le_of_ble_eq_true rfl) rfl rfl ?_
  rintro _ _ ⟨kn_1, sh_1, dk_1, rfl, rfl, okk1⟩
  refine J_st (.int (alM N pc ht fs la) :: .ref (mo 0) :: []) rfl ?_
  refine J_ws (wMd Z mo pl th sz ea tk dp lr dy ca kn_1 tp kd fr me va wo pc ht fs la kh kf kl sh_1 dk_1 sk ++ wPl Z pl (nI N) ls mn hn ha hh dz wh bg en od wi al) rfl ?_
  refine J_cVb (As := [.int (alM N pc ht fs la)]) (st := []) (rc2 := (rmK 9).cells) (rs2 := (rmK 9).slots) C iX10_allHoursLost_5 lm_X10_386 yc_X10_ok yv_X10_ok c_X10_ok (q0 := 0) rfl rfl rfl [] [] rfl rfl (rmK_le (by omega) (by decide)) (Nat.le_of_ble_eq_true rfl) rfl rfl ?_
  rintro _ _ ⟨rfl, rfl⟩
  refine J_st (.int (alM N pc ht fs la) :: []) rfl ?_
  refine J_ws (wMd Z mo pl 0 sz ea tk dp lr dy ca kn_1 tp kd fr me va wo pc ht fs la kh kf kl sh_1 dk_1 sk ++ wPl Z pl (nI N) ls mn hn ha hh dz wh bg en od wi al) rfl ?_
  exact J_iret C E iX10_allHoursLost_8 ⟨kn_1, sh_1, dk_1, okk1, rfl, rfl⟩

set_option maxRecDepth 100000 in
set_option maxHeartbeats 4000000 in
theorem c_X10_build {Z : GZ} {l : Launch} {mo pl : Nat → Nat} {N : Nat} {th sz ea tk dp lr dy ca ls mn : Int32} {kn : Bool} {hn va : Nat → Int64} {ha hh dz wh bg en od wi al tp kd fr me wo pc ht fs la kh kf kl sh dk sk : Nat → Int32} {q x : Int32} (hN : N ≤ 12) (ok : kn = true → LkOk N pc ht fs la sh dk)  : Ct Z l yX10_build cX10_build 4 (some .int) (rmK 9) [.ref (mo 0), .int q, .int x] (wMd Z mo pl th sz ea tk dp lr dy ca kn tp kd fr me va wo pc ht fs la kh kf kl sh dk sk ++ wPl Z pl (nI N) ls mn hn ha hh dz wh bg en od wi al) (fun v w => ((¬ ∃ i, i < N ∧ q = nI i) ∧ v = some (.int 0) ∧ w = (wMd Z mo pl 1 sz ea tk dp lr dy ca kn tp kd fr me va wo pc ht fs la kh kf kl sh dk sk ++ wPl Z pl (nI N) ls mn hn ha hh dz wh bg en od wi al)) ∨ ((∃ i, i < N ∧ q = nI i) ∧ inX x 0 30 = false ∧ v = some (.int 0) ∧ w = (wMd Z mo pl 2 sz ea tk dp lr dy ca kn tp kd fr me va wo pc ht fs la kh kf kl sh dk sk ++ wPl Z pl (nI N) ls mn hn ha hh dz wh bg en od wi al)) ∨ (∃ i, i < N ∧ q = nI i ∧ inX x 0 30 = true ∧ v = some (.int (ht i)) ∧ w = (wMd Z mo pl 0 sz ea tk dp lr dy ca false tp kd fr me va wo pc (upd ht i x) fs la kh kf kl sh dk sk ++ wPl Z pl (nI N) ls mn hn ha hh dz wh bg en od wi al))) := by
  refine Ct.ofJ (own := RX10) (nm := "build") (lv0 := [(0, .ref (mo 0)), (1, .int q), (2, .int x)]) (by decide) rfl rfl (Nat.le_of_ble_eq_true rfl) rfl (fun X hXl C E => ?_)
  subst hXl
  refine J_aload_n C iX10_build_0 rfl rfl ?_
  refine J_iconst 0 C iX10_build_1 rfl ?_
  refine J_put (wMd Z mo pl 0 sz ea tk dp lr dy ca kn tp kd fr me va wo pc ht fs la kh kf kl sh dk sk ++ wPl Z pl (nI N) ls mn hn ha hh dz wh bg en od wi al) 0 C iX10_build_2 pf_X10_70 rfl rfl rfl (Nat.le_of_ble_eq_true rfl) rfl ?_
  refine J_aload_n C iX10_build_5 rfl rfl ?_
  refine J_iload_n C iX10_build_6 rfl rfl ?_
  refine J_cVb (As := [.int q]) (st := []) (rc2 := (rmK 9).cells) (rs2 := (rmK 9).slots) C iX10_build_7 lm_X10_395 yc_X10_isHouse yv_X10_isHouse (c_X10_isHouse2 (q := q) hN) (q0 := 0) rfl rfl rfl [] [] rfl rfl (rmK_le (by omega) (by decide)) (Nat.le_of_ble_eq_true rfl) rfl rfl ?_
  rintro _ _ (⟨i, h_i, rfl, rfl, rfl⟩ | ⟨no_q, rfl, rfl⟩)
  · refine J_st (.int (b2i true) :: []) rfl ?_
    refine J_ws (wMd Z mo pl 0 sz ea tk dp lr dy ca kn tp kd fr me va wo pc ht fs la kh kf kl sh dk sk ++ wPl Z pl (nI N) ls mn hn ha hh dz wh bg en od wi al) (by simp only [List.append_assoc, List.append_nil, List.nil_append]) ?_
    refine J_ifneb 19 C iX10_build_10 rfl (fun h10 => ?_) (fun h10 => absurd (h10.symm.trans rfl) (by decide))
    refine J_iload_n C iX10_build_19 rfl rfl ?_
    refine J_iconst 0 C iX10_build_20 rfl ?_
    refine J_bipush 30 C iX10_build_21 rfl ?_
    refine J_cSp (As := [.int x, .int 0, .int 30]) (st := []) C iX10_build_23 lm_X10_76 yc_X10_isIn ys_X10_isIn (c_X10_isIn (q := x) (a := 0) (b := 30)) rfl (rmK_le (by omega) (by decide)) (Nat.le_of_ble_eq_true rfl) ⟨rfl, rfl⟩ ?_
    rintro _ rfl
    refine J_st (.int (b2i (inX x 0 30)) :: []) rfl ?_
    refine J_ifneb 35 C iX10_build_26 rfl (fun h26 => ?_) (fun h26 => ?_)
    · refine J_aload_n C iX10_build_35 rfl rfl ?_
      refine J_get (.ref (mo 8)) 0 C iX10_build_36 gf_X10_43 rfl rfl ?_
      refine J_iload_n C iX10_build_39 rfl rfl ?_
      refine J_iald 8 C iX10_build_40 rfl (vp_in_nI (n := i) (by omega) (by decide)) ?_
      rw [nI_clamp (n := i) (by omega)]
      refine J_istore_n [(3, .int (ht i)), (0, .ref (mo 0)), (1, .int (nI i)), (2, .int x)] C iX10_build_41 rfl (by decide) rfl ?_
      refine J_aload_n C iX10_build_42 rfl rfl ?_
      refine J_iload_n C iX10_build_43 rfl rfl ?_
      refine J_iload_n C iX10_build_44 rfl rfl ?_
      refine J_cVb (As := [.int (nI i), .int x]) (st := []) (rc2 := (rmK 9).cells) (rs2 := (rmK 9).slots) C iX10_build_45 lm_X10_159 yc_X10_raiseTo yv_X10_raiseTo (c_X10_raiseTo (by omega)) (q0 := 0) rfl rfl rfl [] [] rfl rfl (rmK_le (by omega) (by decide)) (Nat.le_of_ble_eq_true rfl) rfl rfl ?_
      rintro _ _ ⟨rfl, rfl⟩
      refine J_st ([]) rfl ?_
      refine J_ws (wMd Z mo pl 0 sz ea tk dp lr dy ca false tp kd fr me va wo pc (upd ht i x) fs la kh kf kl sh dk sk ++ wPl Z pl (nI N) ls mn hn ha hh dz wh bg en od wi al) rfl ?_
      refine J_iload_n C iX10_build_48 rfl rfl ?_
      exact J_iret C E iX10_build_49 (Or.inr (Or.inr ⟨i, h_i, rfl, h26, rfl, rfl⟩))
    · refine J_aload_n C iX10_build_29 rfl rfl ?_
      refine J_iconst 2 C iX10_build_30 rfl ?_
      refine J_cVb (As := [.int 2]) (st := []) (rc2 := (rmK 9).cells) (rs2 := (rmK 9).slots) C iX10_build_31 lm_X10_380 yc_X10_no yv_X10_no c_X10_no (q0 := 0) rfl rfl rfl [] [] rfl rfl (rmK_le (by omega) (by decide)) (Nat.le_of_ble_eq_true rfl) rfl rfl ?_
      rintro _ _ ⟨rfl, rfl⟩
      refine J_st (.int 0 :: []) rfl ?_
      refine J_ws (wMd Z mo pl 2 sz ea tk dp lr dy ca kn tp kd fr me va wo pc ht fs la kh kf kl sh dk sk ++ wPl Z pl (nI N) ls mn hn ha hh dz wh bg en od wi al) rfl ?_
      exact J_iret C E iX10_build_34 (Or.inr (Or.inl ⟨⟨i, h_i, rfl⟩, h26, rfl, rfl⟩))
  · refine J_st (.int (b2i false) :: []) rfl ?_
    refine J_ws (wMd Z mo pl 0 sz ea tk dp lr dy ca kn tp kd fr me va wo pc ht fs la kh kf kl sh dk sk ++ wPl Z pl (nI N) ls mn hn ha hh dz wh bg en od wi al) (by simp only [List.append_assoc, List.append_nil, List.nil_append]) ?_
    refine J_ifneb 19 C iX10_build_10 rfl (fun h10 => absurd (h10.symm.trans rfl) (by decide)) (fun h10 => ?_)
    refine J_aload_n C iX10_build_13 rfl rfl ?_
    refine J_iconst 1 C iX10_build_14 rfl ?_
    refine J_cVb (As := [.int 1]) (st := []) (rc2 := (rmK 9).cells) (rs2 := (rmK 9).slots) C iX10_build_15 lm_X10_380 yc_X10_no yv_X10_no c_X10_no (q0 := 0) rfl rfl rfl [] [] rfl rfl (rmK_le (by omega) (by decide)) (Nat.le_of_ble_eq_true rfl) rfl rfl ?_
    rintro _ _ ⟨rfl, rfl⟩
    refine J_st (.int 0 :: []) rfl ?_
    refine J_ws (wMd Z mo pl 1 sz ea tk dp lr dy ca kn tp kd fr me va wo pc ht fs la kh kf kl sh dk sk ++ wPl Z pl (nI N) ls mn hn ha hh dz wh bg en od wi al) rfl ?_
    exact J_iret C E iX10_build_18 (Or.inl ⟨no_q, rfl, rfl⟩)

set_option maxRecDepth 100000 in
set_option maxHeartbeats 4000000 in
theorem c_X10_setCurfew {Z : GZ} {l : Launch} {mo pl : Nat → Nat} {N : Nat} {th sz ea tk dp lr dy ca ls mn : Int32} {kn : Bool} {hn va : Nat → Int64} {ha hh dz wh bg en od wi al tp kd fr me wo pc ht fs la kh kf kl sh dk sk : Nat → Int32} {q x y : Int32} (hN : N ≤ 12) (ok : kn = true → LkOk N pc ht fs la sh dk)  : Ct Z l yX10_setCurfew cX10_setCurfew 4 (some .int) (rmK 9) [.ref (mo 0), .int q, .int x, .int y] (wMd Z mo pl th sz ea tk dp lr dy ca kn tp kd fr me va wo pc ht fs la kh kf kl sh dk sk ++ wPl Z pl (nI N) ls mn hn ha hh dz wh bg en od wi al) (fun v w => ((¬ ∃ i, i < N ∧ q = nI i) ∧ v = some (.int 0) ∧ w = (wMd Z mo pl 1 sz ea tk dp lr dy ca kn tp kd fr me va wo pc ht fs la kh kf kl sh dk sk ++ wPl Z pl (nI N) ls mn hn ha hh dz wh bg en od wi al)) ∨ ((∃ i, i < N ∧ q = nI i) ∧ (x < 6 ∨ 18 < y ∨ y < x) ∧ v = some (.int 0) ∧ w = (wMd Z mo pl 2 sz ea tk dp lr dy ca kn tp kd fr me va wo pc ht fs la kh kf kl sh dk sk ++ wPl Z pl (nI N) ls mn hn ha hh dz wh bg en od wi al)) ∨ (∃ i kn2 sh2 dk2, i < N ∧ q = nI i ∧ ¬ (x < 6 ∨ 18 < y ∨ y < x) ∧ v = some (.int (alM N pc ht (upd fs i x) (upd la i y))) ∧ w = (wMd Z mo pl 0 sz ea tk dp lr dy ca kn2 tp kd fr me va wo pc ht (upd fs i x) (upd la i y) kh kf kl sh2 dk2 sk ++ wPl Z pl (nI N) ls mn hn ha hh dz wh bg en od wi al) ∧ (kn2 = true → LkOk N pc ht (upd fs i x) (upd la i y) sh2 dk2))) := by
  refine Ct.ofJ (own := RX10) (nm := "setCurfew") (lv0 := [(0, .ref (mo 0)), (1, .int q), (2, .int x), (3, .int y)]) (by decide) rfl rfl (Nat.le_of_ble_eq_true rfl) rfl (fun X hXl C E => ?_)
  subst hXl
  refine J_aload_n C iX10_setCurfew_0 rfl rfl ?_
  refine J_iconst 0 C iX10_setCurfew_1 rfl ?_
  refine J_put (wMd Z mo pl 0 sz ea tk dp lr dy ca kn tp kd fr me va wo pc ht fs la kh kf kl sh dk sk ++ wPl Z pl (nI N) ls mn hn ha hh dz wh bg en od wi al) 0 C iX10_setCurfew_2 pf_X10_70 rfl rfl rfl (Nat.le_of_ble_eq_true rfl) rfl ?_
  refine J_aload_n C iX10_setCurfew_5 rfl rfl ?_
  refine J_iload_n C iX10_setCurfew_6 rfl rfl ?_
  refine J_cVb (As := [.int q]) (st := []) (rc2 := (rmK 9).cells) (rs2 := (rmK 9).slots) C iX10_setCurfew_7 lm_X10_395 yc_X10_isHouse yv_X10_isHouse (c_X10_isHouse2 (q := q) hN) (q0 := 0) rfl rfl rfl [] [] rfl rfl (rmK_le (by omega) (by decide)) (Nat.le_of_ble_eq_true rfl) rfl rfl ?_
  rintro _ _ (⟨i, h_i, rfl, rfl, rfl⟩ | ⟨no_q, rfl, rfl⟩)
  · refine J_st (.int (b2i true) :: []) rfl ?_
    refine J_ws (wMd Z mo pl 0 sz ea tk dp lr dy ca kn tp kd fr me va wo pc ht fs la kh kf kl sh dk sk ++ wPl Z pl (nI N) ls mn hn ha hh dz wh bg en od wi al) (by simp only [List.append_assoc, List.append_nil, List.nil_append]) ?_
    refine J_ifneb 19 C iX10_setCurfew_10 rfl (fun h10 => ?_) (fun h10 => absurd (h10.symm.trans rfl) (by decide))
    refine J_iload_n C iX10_setCurfew_19 rfl rfl ?_
    refine J_bipush 6 C iX10_setCurfew_20 rfl ?_
    refine J_icmplt 36 C iX10_setCurfew_22 rfl (fun h22 => ?_) (fun h22 => ?_)
    · refine J_aload_n C iX10_setCurfew_36 rfl rfl ?_
      refine J_iconst 2 C iX10_setCurfew_37 rfl ?_
      refine J_cVb (As := [.int 2]) (st := []) (rc2 := (rmK 9).cells) (rs2 := (rmK 9).slots) C iX10_setCurfew_38 lm_X10_380 yc_X10_no yv_X10_no c_X10_no (q0 := 0) rfl rfl rfl [] [] rfl rfl (rmK_le (by omega) (by decide)) (Nat.le_of_ble_eq_true rfl) rfl rfl ?_
      rintro _ _ ⟨rfl, rfl⟩
      refine J_st (.int 0 :: []) rfl ?_
      refine J_ws (wMd Z mo pl 2 sz ea tk dp lr dy ca kn tp kd fr me va wo pc ht fs la kh kf kl sh dk sk ++ wPl Z pl (nI N) ls mn hn ha hh dz wh bg en od wi al) rfl ?_
      exact J_iret C E iX10_setCurfew_41 (Or.inr (Or.inl ⟨⟨i, h_i, rfl⟩, by first | exact Or.inl h22 | exact Or.inr (Or.inl (Int32.not_le.mp h22)) | exact Or.inr (Or.inr (Int32.not_le.mp h22)) | exact Or.inr (Or.inl h22) | exact Or.inr (Or.inr h22), rfl, rfl⟩))
    · refine J_iload_n C iX10_setCurfew_25 rfl rfl ?_
      refine J_bipush 18 C iX10_setCurfew_26 rfl ?_
      refine J_icmpgt 36 C iX10_setCurfew_28 rfl (fun h28 => ?_) (fun h28 => ?_)
      · refine J_aload_n C iX10_setCurfew_36 rfl rfl ?_
        refine J_iconst 2 C iX10_setCurfew_37 rfl ?_
        refine J_cVb (As := [.int 2]) (st := []) (rc2 := (rmK 9).cells) (rs2 := (rmK 9).slots) C iX10_setCurfew_38 lm_X10_380 yc_X10_no yv_X10_no c_X10_no (q0 := 0) rfl rfl rfl [] [] rfl rfl (rmK_le (by omega) (by decide)) (Nat.le_of_ble_eq_true rfl) rfl rfl ?_
        rintro _ _ ⟨rfl, rfl⟩
        refine J_st (.int 0 :: []) rfl ?_
        refine J_ws (wMd Z mo pl 2 sz ea tk dp lr dy ca kn tp kd fr me va wo pc ht fs la kh kf kl sh dk sk ++ wPl Z pl (nI N) ls mn hn ha hh dz wh bg en od wi al) rfl ?_
        exact J_iret C E iX10_setCurfew_41 (Or.inr (Or.inl ⟨⟨i, h_i, rfl⟩, by first | exact Or.inl h28 | exact Or.inr (Or.inl (Int32.not_le.mp h28)) | exact Or.inr (Or.inr (Int32.not_le.mp h28)) | exact Or.inr (Or.inl h28) | exact Or.inr (Or.inr h28), rfl, rfl⟩))
      · refine J_iload_n C iX10_setCurfew_31 rfl rfl ?_
        refine J_iload_n C iX10_setCurfew_32 rfl rfl ?_
        refine J_icmpge 42 C iX10_setCurfew_33 rfl (fun h33 => ?_) (fun h33 => ?_)
        · refine J_aload_n C iX10_setCurfew_42 rfl rfl ?_
          refine J_iload_n C iX10_setCurfew_43 rfl rfl ?_
          refine J_iload_n C iX10_setCurfew_44 rfl rfl ?_
          refine J_iload_n C iX10_setCurfew_45 rfl rfl ?_
          refine J_cVb (As := [.int (nI i), .int x, .int y]) (st := []) (rc2 := (rmK 9).cells) (rs2 := (rmK 9).slots) C iX10_setCurfew_46 lm_X10_148 yc_X10_curfew yv_X10_curfew (c_X10_curfew (by omega)) (q0 := 0) rfl rfl rfl [] [] rfl rfl (rmK_le (by omega) (by decide)) (Nat.le_of_ble_eq_true rfl) rfl rfl ?_
          rintro _ _ ⟨rfl, rfl⟩
          refine J_st ([]) rfl ?_
          refine J_ws (wMd Z mo pl 0 sz ea tk dp lr dy ca false tp kd fr me va wo pc ht (upd fs i x) (upd la i y) kh kf kl sh dk sk ++ wPl Z pl (nI N) ls mn hn ha hh dz wh bg en od wi al) rfl ?_
          refine J_aload_n C iX10_setCurfew_49 rfl rfl ?_
          refine J_cVb (As := []) (st := []) (rc2 := (rmK 9).cells) (rs2 := (rmK 9).slots) C iX10_setCurfew_50 lm_X10_389 yc_X10_allLost yv_X10_allLost (c_X10_allLost hN (fun q => absurd q (by decide))) (q0 := 0) rfl rfl rfl [] [] rfl rfl (rmK_le (by omega) (by decide)) (Nat.le_of_ble_eq_true rfl) rfl rfl ?_
          rintro _ _ ⟨kn_1, sh_1, dk_1, rfl, rfl, okk1⟩
          refine J_st (.int (alM N pc ht (upd fs i x) (upd la i y)) :: []) rfl ?_
          refine J_ws (wMd Z mo pl 0 sz ea tk dp lr dy ca kn_1 tp kd fr me va wo pc ht (upd fs i x) (upd la i y) kh kf kl sh_1 dk_1 sk ++ wPl Z pl (nI N) ls mn hn ha hh dz wh bg en od wi al) rfl ?_
          exact J_iret C E iX10_setCurfew_53 (Or.inr (Or.inr ⟨i, kn_1, sh_1, dk_1, h_i, rfl, (by rintro (z | z | z); exact absurd z (by first | exact h22 | exact Int32.not_lt.mpr h22); exact absurd z (by first | exact h28 | exact Int32.not_lt.mpr h28); exact absurd z (by first | exact h33 | exact Int32.not_lt.mpr h33)), rfl, rfl, okk1⟩))
        · refine J_aload_n C iX10_setCurfew_36 rfl rfl ?_
          refine J_iconst 2 C iX10_setCurfew_37 rfl ?_
          refine J_cVb (As := [.int 2]) (st := []) (rc2 := (rmK 9).cells) (rs2 := (rmK 9).slots) C iX10_setCurfew_38 lm_X10_380 yc_X10_no yv_X10_no c_X10_no (q0 := 0) rfl rfl rfl [] [] rfl rfl (rmK_le (by omega) (by decide)) (Nat.le_of_ble_eq_true rfl) rfl rfl ?_
          rintro _ _ ⟨rfl, rfl⟩
          refine J_st (.int 0 :: []) rfl ?_
          refine J_ws (wMd Z mo pl 2 sz ea tk dp lr dy ca kn tp kd fr me va wo pc ht fs la kh kf kl sh dk sk ++ wPl Z pl (nI N) ls mn hn ha hh dz wh bg en od wi al) rfl ?_
          exact J_iret C E iX10_setCurfew_41 (Or.inr (Or.inl ⟨⟨i, h_i, rfl⟩, by first | exact Or.inl h33 | exact Or.inr (Or.inl (Int32.not_le.mp h33)) | exact Or.inr (Or.inr (Int32.not_le.mp h33)) | exact Or.inr (Or.inl h33) | exact Or.inr (Or.inr h33), rfl, rfl⟩))
  · refine J_st (.int (b2i false) :: []) rfl ?_
    refine J_ws (wMd Z mo pl 0 sz ea tk dp lr dy ca kn tp kd fr me va wo pc ht fs la kh kf kl sh dk sk ++ wPl Z pl (nI N) ls mn hn ha hh dz wh bg en od wi al) (by simp only [List.append_assoc, List.append_nil, List.nil_append]) ?_
    refine J_ifneb 19 C iX10_setCurfew_10 rfl (fun h10 => absurd (h10.symm.trans rfl) (by decide)) (fun h10 => ?_)
    refine J_aload_n C iX10_setCurfew_13 rfl rfl ?_
    refine J_iconst 1 C iX10_setCurfew_14 rfl ?_
    refine J_cVb (As := [.int 1]) (st := []) (rc2 := (rmK 9).cells) (rs2 := (rmK 9).slots) C iX10_setCurfew_15 lm_X10_380 yc_X10_no yv_X10_no c_X10_no (q0 := 0) rfl rfl rfl [] [] rfl rfl (rmK_le (by omega) (by decide)) (Nat.le_of_ble_eq_true rfl) rfl rfl ?_
    rintro _ _ ⟨rfl, rfl⟩
    refine J_st (.int 0 :: []) rfl ?_
    refine J_ws (wMd Z mo pl 1 sz ea tk dp lr dy ca kn tp kd fr me va wo pc ht fs la kh kf kl sh dk sk ++ wPl Z pl (nI N) ls mn hn ha hh dz wh bg en od wi al) rfl ?_
    exact J_iret C E iX10_setCurfew_18 (Or.inl ⟨no_q, rfl, rfl⟩)

