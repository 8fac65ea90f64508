theorem dayI {q : Int32} (h : inX q 1 30 = true) : ∃ n, 1 ≤ n ∧ n ≤ 30 ∧ q = nI n := by
  refine days_ex ?_
  simp only [inX, Bool.and_eq_true, Bool.not_eq_true', decide_eq_false_iff_not] at h
  exact not_or.mpr h
set_option maxRecDepth 100000 in
set_option maxHeartbeats 4000000 in
theorem c_X10_isOpened2 {Z : GZ} {l : Launch} {mo pl : Nat → Nat} {N : Nat} {th sz ea tk dp lr dy ca ls mn : Int32} {kn : Bool} {hn va : Nat → Int64} {ha hh dz wh bg en od wi al tp kd fr me wo pc ht fs la kh kf kl sh dk sk : Nat → Int32} {i : Nat} (hi12 : i < 12)  : Ct Z l yX10_isOpened cX10_isOpened 2 (some .boolean) (rmK 1) [.ref (mo 0), .int (nI i)] (wMd Z mo pl th sz ea tk dp lr dy ca kn tp kd fr me va wo pc ht fs la kh kf kl sh dk sk ++ wPl Z pl (nI N) ls mn hn ha hh dz wh bg en od wi al) (fun v w => (fs i = -1 ∧ v = some (.int (b2i false)) ∧ w = (wMd Z mo pl th sz ea tk dp lr dy ca kn tp kd fr me va wo pc ht fs la kh kf kl sh dk sk ++ wPl Z pl (nI N) ls mn hn ha hh dz wh bg en od wi al)) ∨ (¬ fs i = -1 ∧ v = some (.int (b2i true)) ∧ w = (wMd Z mo pl th sz ea tk dp lr dy ca false tp kd fr me va wo pc ht (upd fs i (-1)) (upd la i (-1)) kh kf kl sh dk sk ++ wPl Z pl (nI N) ls mn hn ha hh dz wh bg en od wi al))) := by
  refine Ct.ofJ (own := RX10) (nm := "isOpened") (lv0 := [(0, .ref (mo 0)), (1, .int (nI i))]) (by decide) rfl rfl (Nat.le_of_ble_eq_true rfl) rfl (fun X hXl C E => ?_)
  subst hXl
  refine J_aload_n C iX10_isOpened_0 rfl rfl ?_
  refine J_get (.ref (mo 9)) 0 C iX10_isOpened_1 gf_X10_46 rfl rfl ?_
  refine J_iload_n C iX10_isOpened_4 rfl rfl ?_
  refine J_iald 9 C iX10_isOpened_5 rfl (vp_in_nI (n := i) (by omega) (by decide)) ?_
  rw [nI_clamp (n := i) (by omega)]
  refine J_iconst (-1) C iX10_isOpened_6 rfl ?_
  refine J_icmpne 12 C iX10_isOpened_7 rfl (fun h7 => ?_) (fun h7 => ?_)
  · refine J_aload_n C iX10_isOpened_12 rfl rfl ?_
    refine J_iload_n C iX10_isOpened_13 rfl rfl ?_
    refine J_iconst (-1) C iX10_isOpened_14 rfl ?_
    refine J_iconst (-1) C iX10_isOpened_15 rfl ?_
    refine J_cVb (As := [.int (nI i), .int (-1), .int (-1)]) (st := []) (rc2 := (rmK 1).cells) (rs2 := (rmK 1).slots) C iX10_isOpened_16 lm_X10_148 yc_X10_curfew yv_X10_curfew (c_X10_curfew (by omega)) (q0 := 0) rfl rfl rfl [] [] rfl rfl (rmK_le (by omega) (by decide)) (Nat.le_of_ble_eq_true rfl) rfl rfl ?_
    rintro _ _ ⟨rfl, rfl⟩
    refine J_st ([]) rfl ?_
    refine J_ws (wMd Z mo pl th sz ea tk dp lr dy ca false tp kd fr me va wo pc ht (upd fs i (-1)) (upd la i (-1)) kh kf kl sh dk sk ++ wPl Z pl (nI N) ls mn hn ha hh dz wh bg en od wi al) rfl ?_
    refine J_iconst 1 C iX10_isOpened_19 rfl ?_
    exact J_zret C E iX10_isOpened_20 rfl (Or.inr ⟨h7, rfl, rfl⟩)
  · refine J_iconst 0 C iX10_isOpened_10 rfl ?_
    exact J_zret C E iX10_isOpened_11 rfl (Or.inl ⟨h7, rfl, rfl⟩)

set_option maxRecDepth 100000 in
set_option maxHeartbeats 4000000 in
theorem c_X10_endCurfew {Z : GZ} {l : Launch} {mo pl : Nat → Nat} {N : Nat} {th sz ea tk dp lr dy ca ls mn : Int32} {kn : Bool} {hn va : Nat → Int64} {ha hh dz wh bg en od wi al tp kd fr me wo pc ht fs la kh kf kl sh dk sk : Nat → Int32} {q : Int32} (hN : N ≤ 12) (ok : kn = true → LkOk N pc ht fs la sh dk)  : Ct Z l yX10_endCurfew cX10_endCurfew 2 (some .int) (rmK 9) [.ref (mo 0), .int q] (wMd Z mo pl th sz ea tk dp lr dy ca kn tp kd fr me va wo pc ht fs la kh kf kl sh dk sk ++ wPl Z pl (nI N) ls mn hn ha hh dz wh bg en od wi al) (fun v w => ((¬ ∃ i, i < N ∧ q = nI i) ∧ v = some (.int 0) ∧ w = (wMd Z mo pl 1 sz ea tk dp lr dy ca kn tp kd fr me va wo pc ht fs la kh kf kl sh dk sk ++ wPl Z pl (nI N) ls mn hn ha hh dz wh bg en od wi al)) ∨ (∃ i, i < N ∧ q = nI i ∧ fs i = -1 ∧ v = some (.int 0) ∧ w = (wMd Z mo pl 2 sz ea tk dp lr dy ca kn tp kd fr me va wo pc ht fs la kh kf kl sh dk sk ++ wPl Z pl (nI N) ls mn hn ha hh dz wh bg en od wi al)) ∨ (∃ i kn2 sh2 dk2, i < N ∧ q = nI i ∧ ¬ fs i = -1 ∧ v = some (.int (alM N pc ht (upd fs i (-1)) (upd la i (-1)))) ∧ w = (wMd Z mo pl 0 sz ea tk dp lr dy ca kn2 tp kd fr me va wo pc ht (upd fs i (-1)) (upd la i (-1)) kh kf kl sh2 dk2 sk ++ wPl Z pl (nI N) ls mn hn ha hh dz wh bg en od wi al) ∧ (kn2 = true → LkOk N pc ht (upd fs i (-1)) (upd la i (-1)) sh2 dk2))) := by
  refine Ct.ofJ (own := RX10) (nm := "endCurfew") (lv0 := [(0, .ref (mo 0)), (1, .int q)]) (by decide) rfl rfl (Nat.le_of_ble_eq_true rfl) rfl (fun X hXl C E => ?_)
  subst hXl
  refine J_aload_n C iX10_endCurfew_0 rfl rfl ?_
  refine J_iconst 0 C iX10_endCurfew_1 rfl ?_
  refine J_put (wMd Z mo pl 0 sz ea tk dp lr dy ca kn tp kd fr me va wo pc ht fs la kh kf kl sh dk sk ++ wPl Z pl (nI N) ls mn hn ha hh dz wh bg en od wi al) 0 C iX10_endCurfew_2 pf_X10_70 rfl rfl rfl (Nat.le_of_ble_eq_true rfl) rfl ?_
  refine J_aload_n C iX10_endCurfew_5 rfl rfl ?_
  refine J_iload_n C iX10_endCurfew_6 rfl rfl ?_
  refine J_cVb (As := [.int q]) (st := []) (rc2 := (rmK 9).cells) (rs2 := (rmK 9).slots) C iX10_endCurfew_7 lm_X10_395 yc_X10_isHouse yv_X10_isHouse (c_X10_isHouse2 (q := q) hN) (q0 := 0) rfl rfl rfl [] [] rfl rfl (rmK_le (by omega) (by decide)) (Nat.le_of_ble_eq_true rfl) rfl rfl ?_
  rintro _ _ (⟨i, h_i, rfl, rfl, rfl⟩ | ⟨no_q, rfl, rfl⟩)
  · refine J_st (.int (b2i true) :: []) rfl ?_
    refine J_ws (wMd Z mo pl 0 sz ea tk dp lr dy ca kn tp kd fr me va wo pc ht fs la kh kf kl sh dk sk ++ wPl Z pl (nI N) ls mn hn ha hh dz wh bg en od wi al) (by simp only [List.append_assoc, List.append_nil, List.nil_append]) ?_
    refine J_ifneb 19 C iX10_endCurfew_10 rfl (fun h10 => ?_) (fun h10 => absurd (h10.symm.trans rfl) (by decide))
    refine J_aload_n C iX10_endCurfew_19 rfl rfl ?_
    refine J_iload_n C iX10_endCurfew_20 rfl rfl ?_
    refine J_cVb (As := [.int (nI i)]) (st := []) (rc2 := (rmK 9).cells) (rs2 := (rmK 9).slots) C iX10_endCurfew_21 lm_X10_173 yc_X10_isOpened yv_X10_isOpened (c_X10_isOpened2 (i := i) (by omega)) (q0 := 0) rfl rfl rfl [] [] rfl rfl (rmK_le (by omega) (by decide)) (Nat.le_of_ble_eq_true rfl) rfl rfl ?_
    rintro _ _ (⟨hf, rfl, rfl⟩ | ⟨hf, rfl, rfl⟩)
    · refine J_st (.int (b2i false) :: []) rfl ?_
      refine J_ws (wMd Z mo pl 0 sz ea tk dp lr dy ca kn tp kd fr me va wo pc ht fs la kh kf kl sh dk sk ++ wPl Z pl (nI N) ls mn hn ha hh dz wh bg en od wi al) (by simp only [List.append_assoc, List.append_nil, List.nil_append]) ?_
      refine J_ifeqb 34 C iX10_endCurfew_24 rfl (fun h24 => ?_) (fun h24 => absurd (h24.symm.trans rfl) (by decide))
      refine J_aload_n C iX10_endCurfew_34 rfl rfl ?_
      refine J_iconst 2 C iX10_endCurfew_35 rfl ?_
      refine J_cVb (As := [.int 2]) (st := []) (rc2 := (rmK 9).cells) (rs2 := (rmK 9).slots) C iX10_endCurfew_36 lm_X10_380 yc_X10_no yv_X10_no c_X10_no (q0 := 0) rfl rfl rfl [] [] rfl rfl (rmK_le (by omega) (by decide)) (Nat.le_of_ble_eq_true rfl) rfl rfl ?_
      rintro _ _ ⟨rfl, rfl⟩
      refine J_st (.int 0 :: []) rfl ?_
      refine J_ws (wMd Z mo pl 2 sz ea tk dp lr dy ca kn tp kd fr me va wo pc ht fs la kh kf kl sh dk sk ++ wPl Z pl (nI N) ls mn hn ha hh dz wh bg en od wi al) rfl ?_
      exact J_iret C E iX10_endCurfew_39 (Or.inr (Or.inl ⟨i, h_i, rfl, hf, rfl, rfl⟩))
    · refine J_st (.int (b2i true) :: []) rfl ?_
      refine J_ws (wMd Z mo pl 0 sz ea tk dp lr dy ca false tp kd fr me va wo pc ht (upd fs i (-1)) (upd la i (-1)) kh kf kl sh dk sk ++ wPl Z pl (nI N) ls mn hn ha hh dz wh bg en od wi al) (by simp only [List.append_assoc, List.append_nil, List.nil_append]) ?_
      refine J_ifeqb 34 C iX10_endCurfew_24 rfl (fun h24 => absurd (h24.symm.trans rfl) (by decide)) (fun h24 => ?_)
      refine J_aload_n C iX10_endCurfew_27 rfl rfl ?_
      refine J_cVb (As := []) (st := []) (rc2 := (rmK 9).cells) (rs2 := (rmK 9).slots) C iX10_endCurfew_28 lm_X10_389 yc_X10_allLost yv_X10_allLost (c_X10_allLost hN (fun q => absurd q (by decide))) (q0 := 0) rfl rfl rfl [] [] rfl rfl (rmK_le (by omega) (by decide)) (Nat.le_of_ble_eq_true rfl) rfl rfl ?_
      rintro _ _ ⟨kn_1, sh_1, dk_1, rfl, rfl, okk1⟩
      refine J_st (.int (alM N pc ht (upd fs i (-1)) (upd la i (-1))) :: []) rfl ?_
      refine J_ws (wMd Z mo pl 0 sz ea tk dp lr dy ca kn_1 tp kd fr me va wo pc ht (upd fs i (-1)) (upd la i (-1)) kh kf kl sh_1 dk_1 sk ++ wPl Z pl (nI N) ls mn hn ha hh dz wh bg en od wi al) rfl ?_
      refine J_goto 39 C iX10_endCurfew_31 rfl ?_
      exact J_iret C E iX10_endCurfew_39 (Or.inr (Or.inr ⟨i, kn_1, sh_1, dk_1, h_i, rfl, hf, rfl, rfl, okk1⟩))
  · refine J_st (.int (b2i false) :: []) rfl ?_
    refine J_ws (wMd Z mo pl 0 sz ea tk dp lr dy ca kn tp kd fr me va wo pc ht fs la kh kf kl sh dk sk ++ wPl Z pl (nI N) ls mn hn ha hh dz wh bg en od wi al) (by simp only [List.append_assoc, List.append_nil, List.nil_append]) ?_
    refine J_ifneb 19 C iX10_endCurfew_10 rfl (fun h10 => absurd (h10.symm.trans rfl) (by decide)) (fun h10 => ?_)
    refine J_aload_n C iX10_endCurfew_13 rfl rfl ?_
    refine J_iconst 1 C iX10_endCurfew_14 rfl ?_
    refine J_cVb (As := [.int 1]) (st := []) (rc2 := (rmK 9).cells) (rs2 := (rmK 9).slots) C iX10_endCurfew_15 lm_X10_380 yc_X10_no yv_X10_no c_X10_no (q0 := 0) rfl rfl rfl [] [] rfl rfl (rmK_le (by omega) (by decide)) (Nat.le_of_ble_eq_true rfl) rfl rfl ?_
    rintro _ _ ⟨rfl, rfl⟩
    refine J_st (.int 0 :: []) rfl ?_
    refine J_ws (wMd Z mo pl 1 sz ea tk dp lr dy ca kn tp kd fr me va wo pc ht fs la kh kf kl sh dk sk ++ wPl Z pl (nI N) ls mn hn ha hh dz wh bg en od wi al) rfl ?_
    exact J_iret C E iX10_endCurfew_18 (Or.inl ⟨no_q, rfl, rfl⟩)

set_option maxRecDepth 100000 in
set_option maxHeartbeats 4000000 in
theorem c_X10_worstHouse {Z : GZ} {l : Launch} {mo pl : Nat → Nat} {N : Nat} {th sz ea tk dp lr dy ca ls mn : Int32} {kn : Bool} {hn va : Nat → Int64} {ha hh dz wh bg en od wi al tp kd fr me wo pc ht fs la kh kf kl sh dk sk : Nat → Int32} (hN : N ≤ 12) (ok : kn = true → LkOk N pc ht fs la sh dk)  : Ct Z l yX10_worstHouse cX10_worstHouse 1 (some .int) (rmK 9) [.ref (mo 0)] (wMd Z mo pl th sz ea tk dp lr dy ca kn tp kd fr me va wo pc ht fs la kh kf kl sh dk sk ++ wPl Z pl (nI N) ls mn hn ha hh dz wh bg en od wi al) (fun v w => (N = 0 ∧ v = some (.int 0) ∧ w = (wMd Z mo pl 1 sz ea tk dp lr dy ca kn tp kd fr me va wo pc ht fs la kh kf kl sh dk sk ++ wPl Z pl (nI N) ls mn hn ha hh dz wh bg en od wi al)) ∨ (∃ kn2 sh2 dk2, ¬ N = 0 ∧ v = some (.int (nI (amx (lsM N pc ht fs la) N))) ∧ w = (wMd Z mo pl 0 sz ea tk dp lr dy ca kn2 tp kd fr me va wo pc ht fs la kh kf kl sh2 dk2 sk ++ wPl Z pl (nI N) ls mn hn ha hh dz wh bg en od wi al) ∧ (kn2 = true → LkOk N pc ht fs la sh2 dk2))) := by
  refine Ct.ofJ (own := RX10) (nm := "worstHouse") (lv0 := [(0, .ref (mo 0))]) (by decide) rfl rfl (Nat.le_of_ble_eq_true rfl) rfl (fun X hXl C E => ?_)
  subst hXl
  refine J_aload_n C iX10_worstHouse_0 rfl rfl ?_
  refine J_iconst 0 C iX10_worstHouse_1 rfl ?_
  refine J_put (wMd Z mo pl 0 sz ea tk dp lr dy ca kn tp kd fr me va wo pc ht fs la kh kf kl sh dk sk ++ wPl Z pl (nI N) ls mn hn ha hh dz wh bg en od wi al) 0 C iX10_worstHouse_2 pf_X10_70 rfl rfl rfl (Nat.le_of_ble_eq_true rfl) rfl ?_
  refine J_aload_n C iX10_worstHouse_5 rfl rfl ?_
  refine J_get (.ref (pl 0)) 0 C iX10_worstHouse_6 gf_X10_20 rfl rfl ?_
  refine J_get (.int (nI N)) 17 C iX10_worstHouse_9 gf_X10_73 rfl rfl ?_
  refine J_ifne 23 C iX10_worstHouse_12 rfl (fun h12 => ?_) (fun h12 => ?_)
  · refine J_aload_n C iX10_worstHouse_23 rfl rfl ?_
    refine J_cVb (As := []) (st := []) (rc2 := (rmK 9).cells) (rs2 := (rmK 9).slots) C iX10_worstHouse_24 lm_X10_185 yc_X10_worstOf yv_X10_worstOf (c_X10_worstOf hN ok) (q0 := 0) rfl rfl rfl [] [] rfl rfl (rmK_le (by omega) (by decide)) (Nat.le_of_ble_eq_true rfl) rfl rfl ?_
    rintro _ _ ⟨kn_1, sh_1, dk_1, rfl, rfl, okk1⟩
    refine J_st (.int (wrM (lsM N pc ht fs la) N) :: []) rfl ?_
    refine J_ws (wMd Z mo pl 0 sz ea tk dp lr dy ca kn_1 tp kd fr me va wo pc ht fs la kh kf kl sh_1 dk_1 sk ++ wPl Z pl (nI N) ls mn hn ha hh dz wh bg en od wi al) rfl ?_
    exact J_iret C E iX10_worstHouse_27 (Or.inr ⟨kn_1, sh_1, dk_1, fun e => h12 (by rw [e]; rfl), by rw [wrM_s (fun e => h12 (by rw [e]; rfl))], rfl, okk1⟩)
  · refine J_aload_n C iX10_worstHouse_15 rfl rfl ?_
    refine J_iconst 1 C iX10_worstHouse_16 rfl ?_
    refine J_cVb (As := [.int 1]) (st := []) (rc2 := (rmK 9).cells) (rs2 := (rmK 9).slots) C iX10_worstHouse_17 lm_X10_380 yc_X10_no yv_X10_no c_X10_no (q0 := 0) rfl rfl rfl [] [] rfl rfl (rmK_le (by omega) (by decide)) (Nat.le_of_ble_eq_true rfl) rfl rfl ?_
    rintro _ _ ⟨rfl, rfl⟩
    refine J_st (.int 0 :: []) rfl ?_
    refine J_ws (wMd Z mo pl 1 sz ea tk dp lr dy ca kn tp kd fr me va wo pc ht fs la kh kf kl sh dk sk ++ wPl Z pl (nI N) ls mn hn ha hh dz wh bg en od wi al) rfl ?_
    refine J_goto 27 C iX10_worstHouse_20 rfl ?_
    exact J_iret C E iX10_worstHouse_27 (Or.inl ⟨(nI_eq (a := N) (b := 0) (by omega) (by decide)).mp h12, rfl, rfl⟩)

set_option maxRecDepth 100000 in
set_option maxHeartbeats 4000000 in
theorem c_X10_light {Z : GZ} {l : Launch} {mo pl : Nat → Nat} {N : Nat} {th sz ea tk dp lr dy ca ls mn : Int32} {kn : Bool} {hn va : Nat → Int64} {ha hh dz wh bg en od wi al tp kd fr me wo pc ht fs la kh kf kl sh dk sk : Nat → Int32} (hN : N ≤ 12) (ok : kn = true → LkOk N pc ht fs la sh dk)  : Ct Z l yX10_light cX10_light 3 (some .int) (rmK 6) [.ref (mo 0)] (wMd Z mo pl th sz ea tk dp lr dy ca kn tp kd fr me va wo pc ht fs la kh kf kl sh dk sk ++ wPl Z pl (nI N) ls mn hn ha hh dz wh bg en od wi al) (fun v w => ∃ kn2 sh2 dk2, v = some (.int (sumN (fun a => b2i (decide (lsM N pc ht fs la a = 0))) N)) ∧ w = (wMd Z mo pl th sz ea tk dp lr dy ca kn2 tp kd fr me va wo pc ht fs la kh kf kl sh2 dk2 sk ++ wPl Z pl (nI N) ls mn hn ha hh dz wh bg en od wi al) ∧ (kn2 = true → LkOk N pc ht fs la sh2 dk2)) := by
  refine Ct.ofJ (own := RX10) (nm := "light") (lv0 := [(0, .ref (mo 0))]) (by decide) rfl rfl (Nat.le_of_ble_eq_true rfl) rfl (fun X hXl C E => ?_)
  subst hXl
  refine J_iconst 0 C iX10_light_0 rfl ?_
  refine J_istore_n [(1, .int 0), (0, .ref (mo 0))] C iX10_light_1 rfl (by decide) rfl ?_
  refine J_iconst 0 C iX10_light_2 rfl ?_
  refine J_istore_n [(2, .int 0), (1, .int 0), (0, .ref (mo 0))] C iX10_light_3 rfl (by decide) rfl ?_
  refine J_lvm [(1, .int 0), (2, .int 0), (0, .ref (mo 0))] (by rfl) ?_
  refine J_forI (σ := Bool × (Nat → Int32) × (Nat → Int32)) (fun k q => [(1, .int (sumN (fun a => b2i (decide (lsM N pc ht fs la a = 0))) k)), (2, .int (nI k)), (0, .ref (mo 0))]) (fun k q => (wMd Z mo pl th sz ea tk dp lr dy ca q.1 tp kd fr me va wo pc ht fs la kh kf kl q.2.1 q.2.2 sk ++ wPl Z pl (nI N) ls mn hn ha hh dz wh bg en od wi al)) (fun k q => q.1 = true → LkOk N pc ht fs la q.2.1 q.2.2) N 0 (kn, sh, dk) (by omega) ok ?_ ?_
  · rintro ⟨kn5, sh5, dk5⟩ hI
    dsimp only at hI ⊢
    refine J_iload_n C iX10_light_4 rfl rfl ?_
    refine J_aload_n C iX10_light_5 rfl rfl ?_
    refine J_get (.ref (pl 0)) 0 C iX10_light_6 gf_X10_20 rfl rfl ?_
    refine J_get (.int (nI N)) 17 C iX10_light_9 gf_X10_73 rfl rfl ?_
    refine J_icmpge 40 C iX10_light_12 rfl (fun h12 => ?_) (fun h12 => absurd (nI_le (Nat.le_refl N) (by omega)) h12)
    refine J_iload_n C iX10_light_40 rfl rfl ?_
    exact J_iret C E iX10_light_41 ⟨kn5, sh5, dk5, rfl, rfl, hI⟩
  · rintro k ⟨kn5, sh5, dk5⟩ hk0 hk hI ih
    dsimp only at hI ⊢
    refine J_iload_n C iX10_light_4 rfl rfl ?_
    refine J_aload_n C iX10_light_5 rfl rfl ?_
    refine J_get (.ref (pl 0)) 0 C iX10_light_6 gf_X10_20 rfl rfl ?_
    refine J_get (.int (nI N)) 17 C iX10_light_9 gf_X10_73 rfl rfl ?_
    refine J_icmpge 40 C iX10_light_12 rfl (fun h12 => absurd h12 (nI_ge hk (by omega))) (fun h12 => ?_)
    refine J_iload_n C iX10_light_15 rfl rfl ?_
    refine J_aload_n C iX10_light_16 rfl rfl ?_
    refine J_iload_n C iX10_light_17 rfl rfl ?_
    refine J_cVb (As := [.int (nI k)]) (st := .int (sumN (fun a => b2i (decide (lsM N pc ht fs la a = 0))) k) :: []) (rc2 := (rmK 6).cells) (rs2 := (rmK 6).slots) C iX10_light_18 lm_X10_118 yc_X10_lostBy yv_X10_lostBy (c_X10_lostBy hN hI (by omega)) (q0 := 0) rfl rfl rfl [] [] rfl rfl (rmK_le (by omega) (by decide)) (Nat.le_of_ble_eq_true rfl) rfl rfl ?_
    rintro _ _ ⟨sh_1, dk_1, rfl, rfl, okk1⟩
    refine J_st (.int (lsM N pc ht fs la k) :: .int (sumN (fun a => b2i (decide (lsM N pc ht fs la a = 0))) k) :: []) rfl ?_
    refine J_ws (wMd Z mo pl th sz ea tk dp lr dy ca true tp kd fr me va wo pc ht fs la kh kf kl sh_1 dk_1 sk ++ wPl Z pl (nI N) ls mn hn ha hh dz wh bg en od wi al) rfl ?_
    refine J_ifne 28 C iX10_light_21 rfl (fun h21 => ?_) (fun h21 => ?_)
    · refine J_iconst 0 C iX10_light_28 rfl ?_
      refine J_cSp (As := [.int 0]) (st := .int (sumN (fun a => b2i (decide (lsM N pc ht fs la a = 0))) k) :: []) C iX10_light_29 lm_X10_103 yc_X10_one ys_X10_one (c_X10_one (b := false)) rfl (rmK_le (by omega) (by decide)) (Nat.le_of_ble_eq_true rfl) ⟨rfl, rfl⟩ ?_
      rintro _ rfl
      refine J_st (.int (b2i false) :: .int (sumN (fun a => b2i (decide (lsM N pc ht fs la a = 0))) k) :: []) rfl ?_
      refine J_iadd C iX10_light_32 ?_
      refine J_istore_n [(1, .int ((sumN (fun a => b2i (decide (lsM N pc ht fs la a = 0))) k) + (b2i false))), (2, .int (nI k)), (0, .ref (mo 0))] C iX10_light_33 rfl (by decide) rfl ?_
      refine J_iinc ((nI k) + 1) [(2, .int ((nI k) + 1)), (1, .int ((sumN (fun a => b2i (decide (lsM N pc ht fs la a = 0))) k) + (b2i false))), (0, .ref (mo 0))] C iX10_light_34 rfl rfl (by decide) rfl ?_
      rw [show (nI k) + 1 = nI (k + 1) from nI_add _ _]
      refine J_goto 4 C iX10_light_37 rfl ?_
      refine J_lvm [(1, .int ((sumN (fun a => b2i (decide (lsM N pc ht fs la a = 0))) k) + (b2i false))), (2, .int (nI (k + 1))), (0, .ref (mo 0))] rfl ?_
      rw [show sumN (fun a => b2i (decide (lsM N pc ht fs la a = 0))) k + b2i false = sumN (fun a => b2i (decide (lsM N pc ht fs la a = 0))) (k + 1) from by rw [sumN]; simp [h21]]
      exact ih (true, sh_1, dk_1) (fun _ => okk1)
    · refine J_iconst 1 C iX10_light_24 rfl ?_
      refine J_goto 29 C iX10_light_25 rfl ?_
      refine J_cSp (As := [.int 1]) (st := .int (sumN (fun a => b2i (decide (lsM N pc ht fs la a = 0))) k) :: []) C iX10_light_29 lm_X10_103 yc_X10_one ys_X10_one (c_X10_one (b := true)) rfl (rmK_le (by omega) (by decide)) (Nat.le_of_ble_eq_true rfl) ⟨rfl, rfl⟩ ?_
      rintro _ rfl
      refine J_st (.int (b2i true) :: .int (sumN (fun a => b2i (decide (lsM N pc ht fs la a = 0))) k) :: []) rfl ?_
      refine J_iadd C iX10_light_32 ?_
      refine J_istore_n [(1, .int ((sumN (fun a => b2i (decide (lsM N pc ht fs la a = 0))) k) + (b2i true))), (2, .int (nI k)), (0, .ref (mo 0))] C iX10_light_33 rfl (by decide) rfl ?_
      refine J_iinc ((nI k) + 1) [(2, .int ((nI k) + 1)), (1, .int ((sumN (fun a => b2i (decide (lsM N pc ht fs la a = 0))) k) + (b2i true))), (0, .ref (mo 0))] C iX10_light_34 rfl rfl (by decide) rfl ?_
      rw [show (nI k) + 1 = nI (k + 1) from nI_add _ _]
      refine J_goto 4 C iX10_light_37 rfl ?_
      refine J_lvm [(1, .int ((sumN (fun a => b2i (decide (lsM N pc ht fs la a = 0))) k) + (b2i true))), (2, .int (nI (k + 1))), (0, .ref (mo 0))] rfl ?_
      rw [show sumN (fun a => b2i (decide (lsM N pc ht fs la a = 0))) k + b2i true = sumN (fun a => b2i (decide (lsM N pc ht fs la a = 0))) (k + 1) from by rw [sumN]; simp [h21]]
      exact ih (true, sh_1, dk_1) (fun _ => okk1)

set_option maxRecDepth 100000 in
set_option maxHeartbeats 4000000 in
theorem c_X10_passDays {Z : GZ} {l : Launch} {mo pl : Nat → Nat} {N : Nat} {th sz ea tk dp lr dy ca mn : Int32} {kn : Bool} {hn va : Nat → Int64} {ha hh dz wh bg en od wi al tp kd fr me wo pc ht fs la kh kf kl sh dk sk : Nat → Int32} {u S : Nat} {q : Int32} {o g j l0 : Nat → Int32} {hx c0 c1 c2 c3 : Nat → Nat} (hN : N ≤ 12) (ok : kn = true → LkOk N pc ht fs la sh dk) (hu : u ≤ 16) (hS : S ≤ 400) (hrow : ∀ r, r < S → RowS N (od r) (wi r) (al r) (o r) (g r) (j r)) (hlaw : ∀ k, k < u → LawN o dz bg en S k (l0 k) (c0 k) (c1 k) (c2 k) (c3 k) ∧ wh k = nI (hx k) ∧ hx k < N) (hP : Pok N pc) (hFT : FTok N fs la)  : Ct Z l yX10_passDays cX10_passDays 2 (some .int) (rmK 12) [.ref (mo 0), .int q] (wMd Z mo pl th sz ea tk dp lr dy ca kn tp kd fr me va wo pc ht fs la kh kf kl sh dk sk ++ wPl Z pl (nI N) (nI u) mn hn ha hh dz wh bg en od wi al) (fun v w => (inX q 1 30 = false ∧ v = some (.int 0) ∧ w = (wMd Z mo pl 1 sz ea tk dp lr dy ca kn tp kd fr me va wo pc ht fs la kh kf kl sh dk sk ++ wPl Z pl (nI N) (nI u) mn hn ha hh dz wh bg en od wi al)) ∨ (∃ n kn2 sh2 dk2 sk2 ht2 fs2 la2 ca2 dy2, 1 ≤ n ∧ n ≤ 30 ∧ q = nI n ∧ v = some (.int (ca2 - ca)) ∧ w = (wMd Z mo pl 0 sz ea tk dp lr dy2 ca2 kn2 tp kd fr me va wo pc ht2 fs2 la2 kh kf kl sh2 dk2 sk2 ++ wPl Z pl (nI N) (nI u) mn hn ha hh dz wh bg en od wi al) ∧ dyN N pc o g j l0 hx c0 c1 c2 c3 u ((ht, fs, la), ca, dy) n = ((ht2, fs2, la2), ca2, dy2) ∧ (kn2 = true → LkOk N pc ht2 fs2 la2 sh2 dk2) ∧ FTok N fs2 la2)) := by
  refine Ct.ofJ (own := RX10) (nm := "passDays") (lv0 := [(0, .ref (mo 0)), (1, .int q)]) (by decide) rfl rfl (Nat.le_of_ble_eq_true rfl) rfl (fun X hXl C E => ?_)
  subst hXl
  refine J_aload_n C iX10_passDays_0 rfl rfl ?_
  refine J_iconst 0 C iX10_passDays_1 rfl ?_
  refine J_put (wMd Z mo pl 0 sz ea tk dp lr dy ca kn tp kd fr me va wo pc ht fs la kh kf kl sh dk sk ++ wPl Z pl (nI N) (nI u) mn hn ha hh dz wh bg en od wi al) 0 C iX10_passDays_2 pf_X10_70 rfl rfl rfl (Nat.le_of_ble_eq_true rfl) rfl ?_
  refine J_iload_n C iX10_passDays_5 rfl rfl ?_
  refine J_iconst 1 C iX10_passDays_6 rfl ?_
  refine J_bipush 30 C iX10_passDays_7 rfl ?_
  refine J_cSp (As := [.int q, .int 1, .int 30]) (st := []) C iX10_passDays_9 lm_X10_76 yc_X10_isIn ys_X10_isIn (c_X10_isIn (q := q) (a := 1) (b := 30)) rfl (rmK_le (by omega) (by decide)) (Nat.le_of_ble_eq_true rfl) ⟨rfl, rfl⟩ ?_
  rintro _ rfl
  refine J_st (.int (b2i (inX q 1 30)) :: []) rfl ?_
  refine J_ifeqb 23 C iX10_passDays_12 rfl (fun h12 => ?_) (fun h12 => ?_)
  · refine J_aload_n C iX10_passDays_23 rfl rfl ?_
    refine J_iconst 1 C iX10_passDays_24 rfl ?_
    refine J_cVb (As := [.int 1]) (st := []) (rc2 := (rmK 12).cells) (rs2 := (rmK 12).slots) C iX10_passDays_25 lm_X10_380 yc_X10_no yv_X10_no c_X10_no (q0 := 0) rfl rfl rfl [] [] rfl rfl (rmK_le (by omega) (by decide)) (Nat.le_of_ble_eq_true rfl) rfl rfl ?_
    rintro _ _ ⟨rfl, rfl⟩
    refine J_st (.int 0 :: []) rfl ?_
    refine J_ws (wMd Z mo pl 1 sz ea tk dp lr dy ca kn tp kd fr me va wo pc ht fs la kh kf kl sh dk sk ++ wPl Z pl (nI N) (nI u) mn hn ha hh dz wh bg en od wi al) rfl ?_
    exact J_iret C E iX10_passDays_28 (Or.inl ⟨h12, rfl, rfl⟩)
  · obtain ⟨n, hn1, hn30, rfl⟩ := dayI h12
    refine J_aload_n C iX10_passDays_15 rfl rfl ?_
    refine J_iload_n C iX10_passDays_16 rfl rfl ?_
    refine J_cVb (As := [.int (nI n)]) (st := []) (rc2 := (rmK 12).cells) (rs2 := (rmK 12).slots) C iX10_passDays_17 lm_X10_414 yc_X10_pass yv_X10_pass (c_X10_pass (o := o) (g := g) (j := j) (l0 := l0) hN ok hn30 hu hS hrow hlaw hP hFT) (q0 := 0) rfl rfl rfl [] [] rfl rfl (rmK_le (by omega) (by decide)) (Nat.le_of_ble_eq_true rfl) rfl rfl ?_
    rintro _ _ ⟨kn_1, sh_1, dk_1, sk_1, ht_1, fs_1, la_1, ca_1, dy_1, rfl, rfl, hdy, okk1, ft1⟩
    refine J_st (.int (ca_1 - ca) :: []) rfl ?_
    refine J_ws (wMd Z mo pl 0 sz ea tk dp lr dy_1 ca_1 kn_1 tp kd fr me va wo pc ht_1 fs_1 la_1 kh kf kl sh_1 dk_1 sk_1 ++ wPl Z pl (nI N) (nI u) mn hn ha hh dz wh bg en od wi al) rfl ?_
    refine J_goto 28 C iX10_passDays_20 rfl ?_
    exact J_iret C E iX10_passDays_28 (Or.inr ⟨n, kn_1, sh_1, dk_1, sk_1, ht_1, fs_1, la_1, ca_1, dy_1, hn1, hn30, rfl, rfl, rfl, hdy, okk1, ft1⟩)

