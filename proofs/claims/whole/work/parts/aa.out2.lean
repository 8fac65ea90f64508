set_option maxRecDepth 100000 in
set_option maxHeartbeats 4000000 in
theorem c_X10_hasCurfew {Z : GZ} {l : Launch} {mo pl : Nat → Nat} {N : Nat} {th sz ea tk dp lr dy ca ls mn : Int32} {kn : Bool} {hn va : Nat → Int64} {ha hh dz wh bg en od wi al tp kd fr me wo pc ht fs la kh kf kl sh dk sk : Nat → Int32} {q : Int32} (hN : N ≤ 12) (ok : kn = true → LkOk N pc ht fs la sh dk)  : Ct Z l yX10_hasCurfew cX10_hasCurfew 2 (some .boolean) (rmK 9) [.ref (mo 0), .int q] (wMd Z mo pl th sz ea tk dp lr dy ca kn tp kd fr me va wo pc ht fs la kh kf kl sh dk sk ++ wPl Z pl (nI N) ls mn hn ha hh dz wh bg en od wi al) (fun v w => ∃ kn2 sh2 dk2, (kn2 = true → LkOk N pc ht fs la sh2 dk2) ∧ ((∃ i, ((i < N ∧ q = nI i)) ∧ v = some (.int (b2i (!decide (fs i = -1)))) ∧ w = (wMd Z mo pl 0 sz ea tk dp lr dy ca kn2 tp kd fr me va wo pc ht fs la kh kf kl sh2 dk2 sk ++ wPl Z pl (nI N) ls mn hn ha hh dz wh bg en od wi al)) ∨ ((¬ (∃ i, ((i < N ∧ q = nI i)))) ∧ v = some (.int (b2i (false))) ∧ w = (wMd Z mo pl 1 sz ea tk dp lr dy ca kn2 tp kd fr me va wo pc ht fs la kh kf kl sh2 dk2 sk ++ wPl Z pl (nI N) ls mn hn ha hh dz wh bg en od wi al)))) := by
  refine Ct.ofJ (own := RX10) (nm := "hasCurfew") (lv0 := [(0, .ref (mo 0)), (1, .int q)]) (by decide) rfl rfl (Nat.le_of_ble_eq_true rfl) rfl (fun X hXl C E => ?_)
  subst hXl
  refine J_aload_n C iX10_hasCurfew_0 rfl rfl ?_
  refine J_iconst 0 C iX10_hasCurfew_1 rfl ?_
  refine J_put (wMd Z mo pl 0 sz ea tk dp lr dy ca kn tp kd fr me va wo pc ht fs la kh kf kl sh dk sk ++ wPl Z pl (nI N) ls mn hn ha hh dz wh bg en od wi al) 0 C iX10_hasCurfew_2 pf_X10_70 rfl rfl rfl (Nat.le_of_ble_eq_true rfl) rfl ?_
  refine J_aload_n C iX10_hasCurfew_5 rfl rfl ?_
  refine J_iload_n C iX10_hasCurfew_6 rfl rfl ?_
  refine J_cVb (As := [.int q]) (st := []) (rc2 := (rmK 9).cells) (rs2 := (rmK 9).slots) C iX10_hasCurfew_7 lm_X10_395 yc_X10_isHouse yv_X10_isHouse (c_X10_isHouse2 (q := q) hN) (q0 := 0) rfl rfl rfl [] [] rfl rfl (rmK_le (by omega) (by decide)) (Nat.le_of_ble_eq_true rfl) rfl rfl ?_
  rintro _ _ (⟨i, h_i, rfl, rfl, rfl⟩ | ⟨no_q, rfl, rfl⟩)
  · refine J_st (.int (b2i true) :: []) rfl ?_
    refine J_ws (wMd Z mo pl 0 sz ea tk dp lr dy ca kn tp kd fr me va wo pc ht fs la kh kf kl sh dk sk ++ wPl Z pl (nI N) ls mn hn ha hh dz wh bg en od wi al) (by simp only [List.append_assoc, List.append_nil, List.nil_append]) ?_
    refine J_ifeqb 31 C iX10_hasCurfew_10 rfl (fun h10 => absurd (h10.symm.trans rfl) (by decide)) (fun h10 => ?_)
    refine J_aload_n C iX10_hasCurfew_13 rfl rfl ?_
    refine J_get (.ref (mo 9)) 0 C iX10_hasCurfew_14 gf_X10_46 rfl rfl ?_
    refine J_iload_n C iX10_hasCurfew_17 rfl rfl ?_
    refine J_iald 9 C iX10_hasCurfew_18 rfl (vp_in_nI (n := i) (by omega) (by decide)) ?_
    rw [nI_clamp (n := i) (by omega)]
    refine J_iconst (-1) C iX10_hasCurfew_19 rfl ?_
    refine J_icmpeq 27 C iX10_hasCurfew_20 rfl (fun h20 => ?_) (fun h20 => ?_)
    · refine J_iconst 0 C iX10_hasCurfew_27 rfl ?_
      refine J_goto 36 C iX10_hasCurfew_28 rfl ?_
      exact J_zret C E iX10_hasCurfew_36 rfl ⟨kn, sh, dk, ok, Or.inl ⟨i, ⟨h_i, rfl⟩, by simp [h10, h20, b2i], rfl⟩⟩
    · refine J_iconst 1 C iX10_hasCurfew_23 rfl ?_
      refine J_goto 36 C iX10_hasCurfew_24 rfl ?_
      exact J_zret C E iX10_hasCurfew_36 rfl ⟨kn, sh, dk, ok, Or.inl ⟨i, ⟨h_i, rfl⟩, by simp [h10, h20, b2i], rfl⟩⟩
  · refine J_st (.int (b2i false) :: []) rfl ?_
    refine J_ws (wMd Z mo pl 0 sz ea tk dp lr dy ca kn tp kd fr me va wo pc ht fs la kh kf kl sh dk sk ++ wPl Z pl (nI N) ls mn hn ha hh dz wh bg en od wi al) (by simp only [List.append_assoc, List.append_nil, List.nil_append]) ?_
    refine J_ifeqb 31 C iX10_hasCurfew_10 rfl (fun h10 => ?_) (fun h10 => absurd (h10.symm.trans rfl) (by decide))
    refine J_aload_n C iX10_hasCurfew_31 rfl rfl ?_
    refine J_iconst 1 C iX10_hasCurfew_32 rfl ?_
    refine J_cVb (As := [.int 1]) (st := []) (rc2 := (rmK 9).cells) (rs2 := (rmK 9).slots) C iX10_hasCurfew_33 lm_X10_398 yc_X10_isNot yv_X10_isNot c_X10_isNot (q0 := 0) rfl rfl rfl [] [] rfl rfl (rmK_le (by omega) (by decide)) (Nat.le_of_ble_eq_true rfl) rfl rfl ?_
    rintro _ _ ⟨rfl, rfl⟩
    refine J_st (.int (b2i false) :: []) rfl ?_
    refine J_ws (wMd Z mo pl 1 sz ea tk dp lr dy ca kn tp kd fr me va wo pc ht fs la kh kf kl sh dk sk ++ wPl Z pl (nI N) ls mn hn ha hh dz wh bg en od wi al) rfl ?_
    exact J_zret C E iX10_hasCurfew_36 nb_b2i ⟨kn, sh, dk, ok, Or.inr ⟨(fun ⟨i, p0⟩ => no_q ⟨_, p0.1, p0.2⟩), rfl, rfl⟩⟩

set_option maxRecDepth 100000 in
set_option maxHeartbeats 4000000 in
theorem c_X10_heightAt {Z : GZ} {l : Launch} {mo pl : Nat → Nat} {N : Nat} {th sz ea tk dp lr dy ca ls mn : Int32} {kn : Bool} {hn va : Nat → Int64} {ha hh dz wh bg en od wi al tp kd fr me wo pc ht fs la kh kf kl sh dk sk : Nat → Int32} {q : Int32} {x : Int32} (hN : N ≤ 12) (ok : kn = true → LkOk N pc ht fs la sh dk)  : Ct Z l yX10_heightAt cX10_heightAt 3 (some .int) (rmK 9) [.ref (mo 0), .int q, .int x] (wMd Z mo pl th sz ea tk dp lr dy ca kn tp kd fr me va wo pc ht fs la kh kf kl sh dk sk ++ wPl Z pl (nI N) ls mn hn ha hh dz wh bg en od wi al) (fun v w => ∃ kn2 sh2 dk2, (kn2 = true → LkOk N pc ht fs la sh2 dk2) ∧ ((∃ i, ((i < N ∧ q = nI i) ∧ ¬ (x < 0 ∨ 24 ≤ x)) ∧ v = some (.int (tlM ht fs la i x)) ∧ w = (wMd Z mo pl 0 sz ea tk dp lr dy ca kn2 tp kd fr me va wo pc ht fs la kh kf kl sh2 dk2 sk ++ wPl Z pl (nI N) ls mn hn ha hh dz wh bg en od wi al)) ∨ ((¬ (∃ i, ((i < N ∧ q = nI i) ∧ ¬ (x < 0 ∨ 24 ≤ x)))) ∧ v = some (.int (0)) ∧ w = (wMd Z mo pl 1 sz ea tk dp lr dy ca kn2 tp kd fr me va wo pc ht fs la kh kf kl sh2 dk2 sk ++ wPl Z pl (nI N) ls mn hn ha hh dz wh bg en od wi al)))) := by
  refine Ct.ofJ (own := RX10) (nm := "heightAt") (lv0 := [(0, .ref (mo 0)), (1, .int q), (2, .int x)]) (by decide) rfl rfl (Nat.le_of_ble_eq_true rfl) rfl (fun X hXl C E => ?_)
  subst hXl
  refine J_aload_n C iX10_heightAt_0 rfl rfl ?_
  refine J_iconst 0 C iX10_heightAt_1 rfl ?_
  refine J_put (wMd Z mo pl 0 sz ea tk dp lr dy ca kn tp kd fr me va wo pc ht fs la kh kf kl sh dk sk ++ wPl Z pl (nI N) ls mn hn ha hh dz wh bg en od wi al) 0 C iX10_heightAt_2 pf_X10_70 rfl rfl rfl (Nat.le_of_ble_eq_true rfl) rfl ?_
  refine J_aload_n C iX10_heightAt_5 rfl rfl ?_
  refine J_iload_n C iX10_heightAt_6 rfl rfl ?_
  refine J_cVb (As := [.int q]) (st := []) (rc2 := (rmK 9).cells) (rs2 := (rmK 9).slots) C iX10_heightAt_7 lm_X10_395 yc_X10_isHouse yv_X10_isHouse (c_X10_isHouse2 (q := q) hN) (q0 := 0) rfl rfl rfl [] [] rfl rfl (rmK_le (by omega) (by decide)) (Nat.le_of_ble_eq_true rfl) rfl rfl ?_
  rintro _ _ (⟨i, h_i, rfl, rfl, rfl⟩ | ⟨no_q, rfl, rfl⟩)
  · refine J_st (.int (b2i true) :: []) rfl ?_
    refine J_ws (wMd Z mo pl 0 sz ea tk dp lr dy ca kn tp kd fr me va wo pc ht fs la kh kf kl sh dk sk ++ wPl Z pl (nI N) ls mn hn ha hh dz wh bg en od wi al) (by simp only [List.append_assoc, List.append_nil, List.nil_append]) ?_
    refine J_ifeqb 29 C iX10_heightAt_10 rfl (fun h10 => absurd (h10.symm.trans rfl) (by decide)) (fun h10 => ?_)
    refine J_iload_n C iX10_heightAt_13 rfl rfl ?_
    refine J_cSb (As := [.int x]) (st := []) (rc2 := (rmK 9).cells) (rs2 := (rmK 9).slots) C iX10_heightAt_14 lm_X10_405 yc_X10_isHour ys_X10_isHour (c_X10_isHour2 (q := x)) [] (wMd Z mo pl 0 sz ea tk dp lr dy ca kn tp kd fr me va wo pc ht fs la kh kf kl sh dk sk ++ wPl Z pl (nI N) ls mn hn ha hh dz wh bg en od wi al) rfl rfl (rmK_le (by omega) (by decide)) (Nat.le_of_ble_eq_true rfl) rfl rfl ?_
    rintro _ _ (⟨hr_x, rfl, rfl⟩ | ⟨hr_x, rfl, rfl⟩)
    · refine J_st (.int (b2i true) :: []) rfl ?_
      refine J_ws (wMd Z mo pl 0 sz ea tk dp lr dy ca kn tp kd fr me va wo pc ht fs la kh kf kl sh dk sk ++ wPl Z pl (nI N) ls mn hn ha hh dz wh bg en od wi al) (by simp only [List.append_assoc, List.append_nil, List.nil_append]) ?_
      refine J_ifeqb 29 C iX10_heightAt_17 rfl (fun h17 => absurd (h17.symm.trans rfl) (by decide)) (fun h17 => ?_)
      refine J_aload_n C iX10_heightAt_20 rfl rfl ?_
      refine J_iload_n C iX10_heightAt_21 rfl rfl ?_
      refine J_iload_n C iX10_heightAt_22 rfl rfl ?_
      refine J_cVb (As := [.int (nI i), .int x]) (st := []) (rc2 := (rmK 9).cells) (rs2 := (rmK 9).slots) C iX10_heightAt_23 lm_X10_86 yc_X10_tall yv_X10_tall (c_X10_tall (i := i) (by omega)) (q0 := 0) rfl rfl rfl [] [] rfl rfl (rmK_le (by omega) (by decide)) (Nat.le_of_ble_eq_true rfl) rfl rfl ?_
      rintro _ _ ⟨rfl, rfl⟩
      refine J_st (.int (tlM ht fs la i x) :: []) rfl ?_
      refine J_ws (wMd Z mo pl 0 sz ea tk dp lr dy ca kn tp kd fr me va wo pc ht fs la kh kf kl sh dk sk ++ wPl Z pl (nI N) ls mn hn ha hh dz wh bg en od wi al) rfl ?_
      refine J_goto 34 C iX10_heightAt_26 rfl ?_
      exact J_iret C E iX10_heightAt_34 ⟨kn, sh, dk, ok, Or.inl ⟨i, ⟨⟨h_i, rfl⟩, hr_x⟩, rfl, rfl⟩⟩
    · refine J_st (.int (b2i false) :: []) rfl ?_
      refine J_ws (wMd Z mo pl 0 sz ea tk dp lr dy ca kn tp kd fr me va wo pc ht fs la kh kf kl sh dk sk ++ wPl Z pl (nI N) ls mn hn ha hh dz wh bg en od wi al) (by simp only [List.append_assoc, List.append_nil, List.nil_append]) ?_
      refine J_ifeqb 29 C iX10_heightAt_17 rfl (fun h17 => ?_) (fun h17 => absurd (h17.symm.trans rfl) (by decide))
      refine J_aload_n C iX10_heightAt_29 rfl rfl ?_
      refine J_iconst 1 C iX10_heightAt_30 rfl ?_
      refine J_cVb (As := [.int 1]) (st := []) (rc2 := (rmK 9).cells) (rs2 := (rmK 9).slots) C iX10_heightAt_31 lm_X10_380 yc_X10_no yv_X10_no c_X10_no (q0 := 0) rfl rfl rfl [] [] rfl rfl (rmK_le (by omega) (by decide)) (Nat.le_of_ble_eq_true rfl) rfl rfl ?_
      rintro _ _ ⟨rfl, rfl⟩
      refine J_st (.int 0 :: []) rfl ?_
      refine J_ws (wMd Z mo pl 1 sz ea tk dp lr dy ca kn tp kd fr me va wo pc ht fs la kh kf kl sh dk sk ++ wPl Z pl (nI N) ls mn hn ha hh dz wh bg en od wi al) rfl ?_
      exact J_iret C E iX10_heightAt_34 ⟨kn, sh, dk, ok, Or.inr ⟨(fun ⟨i, ⟨p0, p1⟩⟩ => p1 hr_x), rfl, rfl⟩⟩
  · refine J_st (.int (b2i false) :: []) rfl ?_
    refine J_ws (wMd Z mo pl 0 sz ea tk dp lr dy ca kn tp kd fr me va wo pc ht fs la kh kf kl sh dk sk ++ wPl Z pl (nI N) ls mn hn ha hh dz wh bg en od wi al) (by simp only [List.append_assoc, List.append_nil, List.nil_append]) ?_
    refine J_ifeqb 29 C iX10_heightAt_10 rfl (fun h10 => ?_) (fun h10 => absurd (h10.symm.trans rfl) (by decide))
    refine J_aload_n C iX10_heightAt_29 rfl rfl ?_
    refine J_iconst 1 C iX10_heightAt_30 rfl ?_
    refine J_cVb (As := [.int 1]) (st := []) (rc2 := (rmK 9).cells) (rs2 := (rmK 9).slots) C iX10_heightAt_31 lm_X10_380 yc_X10_no yv_X10_no c_X10_no (q0 := 0) rfl rfl rfl [] [] rfl rfl (rmK_le (by omega) (by decide)) (Nat.le_of_ble_eq_true rfl) rfl rfl ?_
    rintro _ _ ⟨rfl, rfl⟩
    refine J_st (.int 0 :: []) rfl ?_
    refine J_ws (wMd Z mo pl 1 sz ea tk dp lr dy ca kn tp kd fr me va wo pc ht fs la kh kf kl sh dk sk ++ wPl Z pl (nI N) ls mn hn ha hh dz wh bg en od wi al) rfl ?_
    exact J_iret C E iX10_heightAt_34 ⟨kn, sh, dk, ok, Or.inr ⟨(fun ⟨i, ⟨p0, p1⟩⟩ => no_q ⟨_, p0.1, p0.2⟩), rfl, rfl⟩⟩

set_option maxRecDepth 100000 in
set_option maxHeartbeats 4000000 in
theorem c_X10_shadowOf {Z : GZ} {l : Launch} {mo pl : Nat → Nat} {N : Nat} {th sz ea tk dp lr dy ca ls mn : Int32} {kn : Bool} {hn va : Nat → Int64} {ha hh dz wh bg en od wi al tp kd fr me wo pc ht fs la kh kf kl sh dk sk : Nat → Int32} {q : Int32} {x : Int32} (hN : N ≤ 12) (ok : kn = true → LkOk N pc ht fs la sh dk)  : Ct Z l yX10_shadowOf cX10_shadowOf 3 (some .int) (rmK 9) [.ref (mo 0), .int q, .int x] (wMd Z mo pl th sz ea tk dp lr dy ca kn tp kd fr me va wo pc ht fs la kh kf kl sh dk sk ++ wPl Z pl (nI N) ls mn hn ha hh dz wh bg en od wi al) (fun v w => ∃ kn2 sh2 dk2, (kn2 = true → LkOk N pc ht fs la sh2 dk2) ∧ ((∃ i, ((i < N ∧ q = nI i) ∧ ¬ (x < 0 ∨ 24 ≤ x)) ∧ v = some (.int (tlM ht fs la i x * spM x / 2)) ∧ w = (wMd Z mo pl 0 sz ea tk dp lr dy ca kn2 tp kd fr me va wo pc ht fs la kh kf kl sh2 dk2 sk ++ wPl Z pl (nI N) ls mn hn ha hh dz wh bg en od wi al)) ∨ ((¬ (∃ i, ((i < N ∧ q = nI i) ∧ ¬ (x < 0 ∨ 24 ≤ x)))) ∧ v = some (.int (0)) ∧ w = (wMd Z mo pl 1 sz ea tk dp lr dy ca kn2 tp kd fr me va wo pc ht fs la kh kf kl sh2 dk2 sk ++ wPl Z pl (nI N) ls mn hn ha hh dz wh bg en od wi al)))) := by
  refine Ct.ofJ (own := RX10) (nm := "shadowOf") (lv0 := [(0, .ref (mo 0)), (1, .int q), (2, .int x)]) (by decide) rfl rfl (Nat.le_of_ble_eq_true rfl) rfl (fun X hXl C E => ?_)
  subst hXl
  refine J_aload_n C iX10_shadowOf_0 rfl rfl ?_
  refine J_iconst 0 C iX10_shadowOf_1 rfl ?_
  refine J_put (wMd Z mo pl 0 sz ea tk dp lr dy ca kn tp kd fr me va wo pc ht fs la kh kf kl sh dk sk ++ wPl Z pl (nI N) ls mn hn ha hh dz wh bg en od wi al) 0 C iX10_shadowOf_2 pf_X10_70 rfl rfl rfl (Nat.le_of_ble_eq_true rfl) rfl ?_
  refine J_aload_n C iX10_shadowOf_5 rfl rfl ?_
  refine J_iload_n C iX10_shadowOf_6 rfl rfl ?_
  refine J_cVb (As := [.int q]) (st := []) (rc2 := (rmK 9).cells) (rs2 := (rmK 9).slots) C iX10_shadowOf_7 lm_X10_395 yc_X10_isHouse yv_X10_isHouse (c_X10_isHouse2 (q := q) hN) (q0 := 0) rfl rfl rfl [] [] rfl rfl (rmK_le (by omega) (by decide)) (Nat.le_of_ble_eq_true rfl) rfl rfl ?_
  rintro _ _ (⟨i, h_i, rfl, rfl, rfl⟩ | ⟨no_q, rfl, rfl⟩)
  · refine J_st (.int (b2i true) :: []) rfl ?_
    refine J_ws (wMd Z mo pl 0 sz ea tk dp lr dy ca kn tp kd fr me va wo pc ht fs la kh kf kl sh dk sk ++ wPl Z pl (nI N) ls mn hn ha hh dz wh bg en od wi al) (by simp only [List.append_assoc, List.append_nil, List.nil_append]) ?_
    refine J_ifeqb 29 C iX10_shadowOf_10 rfl (fun h10 => absurd (h10.symm.trans rfl) (by decide)) (fun h10 => ?_)
    refine J_iload_n C iX10_shadowOf_13 rfl rfl ?_
    refine J_cSb (As := [.int x]) (st := []) (rc2 := (rmK 9).cells) (rs2 := (rmK 9).slots) C iX10_shadowOf_14 lm_X10_405 yc_X10_isHour ys_X10_isHour (c_X10_isHour2 (q := x)) [] (wMd Z mo pl 0 sz ea tk dp lr dy ca kn tp kd fr me va wo pc ht fs la kh kf kl sh dk sk ++ wPl Z pl (nI N) ls mn hn ha hh dz wh bg en od wi al) rfl rfl (rmK_le (by omega) (by decide)) (Nat.le_of_ble_eq_true rfl) rfl rfl ?_
    rintro _ _ (⟨hr_x, rfl, rfl⟩ | ⟨hr_x, rfl, rfl⟩)
    · refine J_st (.int (b2i true) :: []) rfl ?_
      refine J_ws (wMd Z mo pl 0 sz ea tk dp lr dy ca kn tp kd fr me va wo pc ht fs la kh kf kl sh dk sk ++ wPl Z pl (nI N) ls mn hn ha hh dz wh bg en od wi al) (by simp only [List.append_assoc, List.append_nil, List.nil_append]) ?_
      refine J_ifeqb 29 C iX10_shadowOf_17 rfl (fun h17 => absurd (h17.symm.trans rfl) (by decide)) (fun h17 => ?_)
      refine J_aload_n C iX10_shadowOf_20 rfl rfl ?_
      refine J_iload_n C iX10_shadowOf_21 rfl rfl ?_
      refine J_iload_n C iX10_shadowOf_22 rfl rfl ?_
      refine J_cVb (As := [.int (nI i), .int x]) (st := []) (rc2 := (rmK 9).cells) (rs2 := (rmK 9).slots) C iX10_shadowOf_23 lm_X10_93 yc_X10_reach yv_X10_reach (c_X10_reach (i := i) (by omega)) (q0 := 0) rfl rfl rfl [] [] rfl rfl (rmK_le (by omega) (by decide)) (Nat.le_of_ble_eq_true rfl) rfl rfl ?_
      rintro _ _ ⟨rfl, rfl⟩
      refine J_st (.int (tlM ht fs la i x * spM x / 2) :: []) rfl ?_
      refine J_ws (wMd Z mo pl 0 sz ea tk dp lr dy ca kn tp kd fr me va wo pc ht fs la kh kf kl sh dk sk ++ wPl Z pl (nI N) ls mn hn ha hh dz wh bg en od wi al) rfl ?_
      refine J_goto 34 C iX10_shadowOf_26 rfl ?_
      exact J_iret C E iX10_shadowOf_34 ⟨kn, sh, dk, ok, Or.inl ⟨i, ⟨⟨h_i, rfl⟩, hr_x⟩, rfl, rfl⟩⟩
    · refine J_st (.int (b2i false) :: []) rfl ?_
      refine J_ws (wMd Z mo pl 0 sz ea tk dp lr dy ca kn tp kd fr me va wo pc ht fs la kh kf kl sh dk sk ++ wPl Z pl (nI N) ls mn hn ha hh dz wh bg en od wi al) (by simp only [List.append_assoc, List.append_nil, List.nil_append]) ?_
      refine J_ifeqb 29 C iX10_shadowOf_17 rfl (fun h17 => ?_) (fun h17 => absurd (h17.symm.trans rfl) (by decide))
      refine J_aload_n C iX10_shadowOf_29 rfl rfl ?_
      refine J_iconst 1 C iX10_shadowOf_30 rfl ?_
      refine J_cVb (As := [.int 1]) (st := []) (rc2 := (rmK 9).cells) (rs2 := (rmK 9).slots) C iX10_shadowOf_31 lm_X10_380 yc_X10_no yv_X10_no c_X10_no (q0 := 0) rfl rfl rfl [] [] rfl rfl (rmK_le (by omega) (by decide)) (Nat.le_of_ble_eq_true rfl) rfl rfl ?_
      rintro _ _ ⟨rfl, rfl⟩
      refine J_st (.int 0 :: []) rfl ?_
      refine J_ws (wMd Z mo pl 1 sz ea tk dp lr dy ca kn tp kd fr me va wo pc ht fs la kh kf kl sh dk sk ++ wPl Z pl (nI N) ls mn hn ha hh dz wh bg en od wi al) rfl ?_
      exact J_iret C E iX10_shadowOf_34 ⟨kn, sh, dk, ok, Or.inr ⟨(fun ⟨i, ⟨p0, p1⟩⟩ => p1 hr_x), rfl, rfl⟩⟩
  · refine J_st (.int (b2i false) :: []) rfl ?_
    refine J_ws (wMd Z mo pl 0 sz ea tk dp lr dy ca kn tp kd fr me va wo pc ht fs la kh kf kl sh dk sk ++ wPl Z pl (nI N) ls mn hn ha hh dz wh bg en od wi al) (by simp only [List.append_assoc, List.append_nil, List.nil_append]) ?_
    refine J_ifeqb 29 C iX10_shadowOf_10 rfl (fun h10 => ?_) (fun h10 => absurd (h10.symm.trans rfl) (by decide))
    refine J_aload_n C iX10_shadowOf_29 rfl rfl ?_
    refine J_iconst 1 C iX10_shadowOf_30 rfl ?_
    refine J_cVb (As := [.int 1]) (st := []) (rc2 := (rmK 9).cells) (rs2 := (rmK 9).slots) C iX10_shadowOf_31 lm_X10_380 yc_X10_no yv_X10_no c_X10_no (q0 := 0) rfl rfl rfl [] [] rfl rfl (rmK_le (by omega) (by decide)) (Nat.le_of_ble_eq_true rfl) rfl rfl ?_
    rintro _ _ ⟨rfl, rfl⟩
    refine J_st (.int 0 :: []) rfl ?_
    refine J_ws (wMd Z mo pl 1 sz ea tk dp lr dy ca kn tp kd fr me va wo pc ht fs la kh kf kl sh dk sk ++ wPl Z pl (nI N) ls mn hn ha hh dz wh bg en od wi al) rfl ?_
    exact J_iret C E iX10_shadowOf_34 ⟨kn, sh, dk, ok, Or.inr ⟨(fun ⟨i, ⟨p0, p1⟩⟩ => no_q ⟨_, p0.1, p0.2⟩), rfl, rfl⟩⟩

set_option maxRecDepth 100000 in
set_option maxHeartbeats 4000000 in
theorem c_X10_isShade {Z : GZ} {l : Launch} {mo pl : Nat → Nat} {N : Nat} {th sz ea tk dp lr dy ca ls mn : Int32} {kn : Bool} {hn va : Nat → Int64} {ha hh dz wh bg en od wi al tp kd fr me wo pc ht fs la kh kf kl sh dk sk : Nat → Int32} {i i2 : Nat} {x : Int32} (hN : N ≤ 12) (ok : kn = true → LkOk N pc ht fs la sh dk) (hi : i < N) (hi2 : i2 < N)  : Ct Z l yX10_isShade cX10_isShade 4 (some .boolean) (rmK 5) [.ref (mo 0), .int (nI i), .int (nI i2), .int x] (wMd Z mo pl th sz ea tk dp lr dy ca kn tp kd fr me va wo pc ht fs la kh kf kl sh dk sk ++ wPl Z pl (nI N) ls mn hn ha hh dz wh bg en od wi al) (fun v w => ∃ sh2 dk2, v = some (.int (b2i (decide ((lkM pc ht fs la i i2 >>> (x &&& 31)) &&& 1 = 1)))) ∧ w = (wMd Z mo pl th sz ea tk dp lr dy ca true tp kd fr me va wo pc ht fs la kh kf kl sh2 dk2 sk ++ wPl Z pl (nI N) ls mn hn ha hh dz wh bg en od wi al) ∧ LkOk N pc ht fs la sh2 dk2) := by
  refine Ct.ofJ (own := RX10) (nm := "isShade") (lv0 := [(0, .ref (mo 0)), (1, .int (nI i)), (2, .int (nI i2)), (3, .int x)]) (by decide) rfl rfl (Nat.le_of_ble_eq_true rfl) rfl (fun X hXl C E => ?_)
  subst hXl
  refine J_aload_n C iX10_isShade_0 rfl rfl ?_
  refine J_cVb (As := []) (st := []) (rc2 := (rmK 5).cells) (rs2 := (rmK 5).slots) C iX10_isShade_1 lm_X10_107 yc_X10_look yv_X10_look (c_X10_look hN ok) (q0 := 0) rfl rfl rfl [] [] rfl rfl (rmK_le (by omega) (by decide)) (Nat.le_of_ble_eq_true rfl) rfl rfl ?_
  rintro _ _ ⟨sh_1, dk_1, rfl, rfl, okk1⟩
  refine J_st ([]) rfl ?_
  refine J_ws (wMd Z mo pl th sz ea tk dp lr dy ca true tp kd fr me va wo pc ht fs la kh kf kl sh_1 dk_1 sk ++ wPl Z pl (nI N) ls mn hn ha hh dz wh bg en od wi al) rfl ?_
  refine J_aload_n C iX10_isShade_4 rfl rfl ?_
  refine J_get (.ref (mo 14)) 0 C iX10_isShade_5 gf_X10_61 rfl rfl ?_
  refine J_bipush 12 C iX10_isShade_8 rfl ?_
  refine J_iload_n C iX10_isShade_10 rfl rfl ?_
  refine J_imul C iX10_isShade_11 ?_
  refine J_iload_n C iX10_isShade_12 rfl rfl ?_
  refine J_iadd C iX10_isShade_13 ?_
  refine J_iald 14 C iX10_isShade_14 rfl (ji_in (by omega) (by omega)) ?_
  refine J_iload_n C iX10_isShade_15 rfl rfl ?_
  refine J_ishr C iX10_isShade_16 ?_
  refine J_iconst 1 C iX10_isShade_17 rfl ?_
  refine J_iand C iX10_isShade_18 ?_
  refine J_iconst 1 C iX10_isShade_19 rfl ?_
  refine J_icmpne 27 C iX10_isShade_20 rfl (fun h20 => ?_) (fun h20 => ?_)
  · refine J_iconst 0 C iX10_isShade_27 rfl ?_
    exact J_zret C E iX10_isShade_28 rfl ⟨sh_1, dk_1, by rw [← okk1.1 i i2 hi hi2]; simp [ji_nI (show i < 12 by omega) (show i2 < 12 by omega)] at h20; simp [h20, b2i], rfl, okk1⟩
  · refine J_iconst 1 C iX10_isShade_23 rfl ?_
    refine J_goto 28 C iX10_isShade_24 rfl ?_
    exact J_zret C E iX10_isShade_28 rfl ⟨sh_1, dk_1, by rw [← okk1.1 i i2 hi hi2]; simp [ji_nI (show i < 12 by omega) (show i2 < 12 by omega)] at h20; simp [h20, b2i], rfl, okk1⟩

