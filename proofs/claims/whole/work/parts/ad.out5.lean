set_option maxRecDepth 100000 in
set_option maxHeartbeats 4000000 in
theorem c_X10_trim {Z : GZ} {l : Launch} {mo pl : Nat → Nat} {N tz : Nat} {th ea tk dp lr dy ca ls mn : Int32} {kn : Bool} {hn va : Nat → Int64} {ha hh dz wh bg en od wi al tp kd fr me wo pc ht fs la kh kf kl sh dk sk : Nat → Int32} {q : Int32}  : Ct Z l yX10_trim cX10_trim 2 (some .int) (rmK 2) [.ref (mo 0), .int q] (wMd Z mo pl th (nI tz) ea tk dp lr dy ca kn tp kd fr me va wo pc ht fs la kh kf kl sh dk sk ++ wPl Z pl (nI N) ls mn hn ha hh dz wh bg en od wi al) (fun v w => (inX q 0 (nI tz) = false ∧ v = some (.int 0) ∧ w = (wMd Z mo pl 1 (nI tz) ea tk dp lr dy ca kn tp kd fr me va wo pc ht fs la kh kf kl sh dk sk ++ wPl Z pl (nI N) ls mn hn ha hh dz wh bg en od wi al)) ∨ (inX q 0 (nI tz) = true ∧ v = some (.int q) ∧ w = (wMd Z mo pl 0 q ea tk dp lr dy ca kn tp kd fr me va wo pc ht fs la kh kf kl sh dk sk ++ wPl Z pl (nI N) ls mn hn ha hh dz wh bg en od wi al))) := by
  refine Ct.ofJ (own := RX10) (nm := "trim") (lv0 := [(0, .ref (mo 0)), (1, .int q)]) (by decide) rfl rfl (Nat.le_of_ble_eq_true rfl) rfl (fun X hXl C E => ?_)
  subst hXl
  refine J_aload_n C iX10_trim_0 rfl rfl ?_
  refine J_iconst 0 C iX10_trim_1 rfl ?_
  refine J_put (wMd Z mo pl 0 (nI tz) ea tk dp lr dy ca kn tp kd fr me va wo pc ht fs la kh kf kl sh dk sk ++ wPl Z pl (nI N) ls mn hn ha hh dz wh bg en od wi al) 0 C iX10_trim_2 pf_X10_70 rfl rfl rfl (Nat.le_of_ble_eq_true rfl) rfl ?_
  refine J_iload_n C iX10_trim_5 rfl rfl ?_
  refine J_iconst 0 C iX10_trim_6 rfl ?_
  refine J_aload_n C iX10_trim_7 rfl rfl ?_
  refine J_get (.int (nI tz)) 0 C iX10_trim_8 gf_X10_217 rfl rfl ?_
  refine J_cSp (As := [.int q, .int 0, .int (nI tz)]) (st := []) C iX10_trim_11 lm_X10_76 yc_X10_isIn ys_X10_isIn (c_X10_isIn (q := q) (a := 0) (b := nI tz)) rfl (rmK_le (by omega) (by decide)) (Nat.le_of_ble_eq_true rfl) ⟨rfl, rfl⟩ ?_
  rintro _ rfl
  refine J_st (.int (b2i (inX q 0 (nI tz))) :: []) rfl ?_
  refine J_ifneb 23 C iX10_trim_14 rfl (fun h14 => ?_) (fun h14 => ?_)
  · refine J_aload_n C iX10_trim_23 rfl rfl ?_
    refine J_iload_n C iX10_trim_24 rfl rfl ?_
    refine J_put (wMd Z mo pl 0 q ea tk dp lr dy ca kn tp kd fr me va wo pc ht fs la kh kf kl sh dk sk ++ wPl Z pl (nI N) ls mn hn ha hh dz wh bg en od wi al) 0 C iX10_trim_25 pf_X10_217 rfl rfl rfl (Nat.le_of_ble_eq_true rfl) rfl ?_
    refine J_iload_n C iX10_trim_28 rfl rfl ?_
    exact J_iret C E iX10_trim_29 (Or.inr ⟨h14, rfl, rfl⟩)
  · refine J_aload_n C iX10_trim_17 rfl rfl ?_
    refine J_iconst 1 C iX10_trim_18 rfl ?_
    refine J_cVb (As := [.int 1]) (st := []) (rc2 := (rmK 2).cells) (rs2 := (rmK 2).slots) C iX10_trim_19 lm_X10_380 yc_X10_no yv_X10_no c_X10_no (q0 := 0) rfl rfl rfl [] [] rfl rfl (rmK_le (by omega) (by decide)) (Nat.le_of_ble_eq_true rfl) rfl rfl ?_
    rintro _ _ ⟨rfl, rfl⟩
    refine J_st (.int 0 :: []) rfl ?_
    refine J_ws (wMd Z mo pl 1 (nI tz) ea tk dp lr dy ca kn tp kd fr me va wo pc ht fs la kh kf kl sh dk sk ++ wPl Z pl (nI N) ls mn hn ha hh dz wh bg en od wi al) rfl ?_
    exact J_iret C E iX10_trim_22 (Or.inl ⟨h14, rfl, rfl⟩)

set_option maxRecDepth 100000 in
set_option maxHeartbeats 4000000 in
theorem c_X10_ofCurfew_fs {Z : GZ} {l : Launch} {mo pl : Nat → Nat} {N : Nat} {th sz ea tk dp lr dy ca ls mn : Int32} {kn : Bool} {hn va : Nat → Int64} {ha hh dz wh bg en od wi al tp kd fr me wo pc ht fs la kh kf kl sh dk sk : Nat → Int32} {q : Int32} (hN : N ≤ 12) (ok : kn = true → LkOk N pc ht fs la sh dk)  : Ct Z l yX10_ofCurfew cX10_ofCurfew 3 (some .int) (rmK 2) [.ref (mo 0), .int q, .ref (mo 9)] (wMd Z mo pl th sz ea tk dp lr dy ca kn tp kd fr me va wo pc ht fs la kh kf kl sh dk sk ++ wPl Z pl (nI N) ls mn hn ha hh dz wh bg en od wi al) (fun v w => ((¬ ∃ i, i < N ∧ q = nI i) ∧ v = some (.int 0) ∧ w = (wMd Z mo pl 1 sz ea tk dp lr dy ca kn tp kd fr me va wo pc ht fs la kh kf kl sh dk sk ++ wPl Z pl (nI N) ls mn hn ha hh dz wh bg en od wi al)) ∨ (∃ i, i < N ∧ q = nI i ∧ fs i = -1 ∧ v = some (.int 0) ∧ w = (wMd Z mo pl 2 sz ea tk dp lr dy ca kn tp kd fr me va wo pc ht fs la kh kf kl sh dk sk ++ wPl Z pl (nI N) ls mn hn ha hh dz wh bg en od wi al)) ∨ (∃ i, i < N ∧ q = nI i ∧ ¬ fs i = -1 ∧ v = some (.int (fs i)) ∧ w = (wMd Z mo pl 0 sz ea tk dp lr dy ca kn tp kd fr me va wo pc ht fs la kh kf kl sh dk sk ++ wPl Z pl (nI N) ls mn hn ha hh dz wh bg en od wi al))) := by
  refine Ct.ofJ (own := RX10) (nm := "ofCurfew") (lv0 := [(0, .ref (mo 0)), (1, .int q), (2, .ref (mo 9))]) (by decide) rfl rfl (Nat.le_of_ble_eq_true rfl) rfl (fun X hXl C E => ?_)
  subst hXl
  refine J_aload_n C iX10_ofCurfew_0 rfl rfl ?_
  refine J_iconst 0 C iX10_ofCurfew_1 rfl ?_
  refine J_put (wMd Z mo pl 0 sz ea tk dp lr dy ca kn tp kd fr me va wo pc ht fs la kh kf kl sh dk sk ++ wPl Z pl (nI N) ls mn hn ha hh dz wh bg en od wi al) 0 C iX10_ofCurfew_2 pf_X10_70 rfl rfl rfl (Nat.le_of_ble_eq_true rfl) rfl ?_
  refine J_aload_n C iX10_ofCurfew_5 rfl rfl ?_
  refine J_iload_n C iX10_ofCurfew_6 rfl rfl ?_
  refine J_cVb (As := [.int q]) (st := []) (rc2 := (rmK 2).cells) (rs2 := (rmK 2).slots) C iX10_ofCurfew_7 lm_X10_395 yc_X10_isHouse yv_X10_isHouse (c_X10_isHouse2 (q := q) hN) (q0 := 0) rfl rfl rfl [] [] rfl rfl (rmK_le (by omega) (by decide)) (Nat.le_of_ble_eq_true rfl) rfl rfl ?_
  rintro _ _ (⟨i, h_i, rfl, rfl, rfl⟩ | ⟨no_q, rfl, rfl⟩)
  · refine J_st (.int (b2i true) :: []) rfl ?_
    refine J_ws (wMd Z mo pl 0 sz ea tk dp lr dy ca kn tp kd fr me va wo pc ht fs la kh kf kl sh dk sk ++ wPl Z pl (nI N) ls mn hn ha hh dz wh bg en od wi al) (by simp only [List.append_assoc, List.append_nil, List.nil_append]) ?_
    refine J_ifneb 19 C iX10_ofCurfew_10 rfl (fun h10 => ?_) (fun h10 => absurd (h10.symm.trans rfl) (by decide))
    refine J_aload_n C iX10_ofCurfew_19 rfl rfl ?_
    refine J_get (.ref (mo 9)) 0 C iX10_ofCurfew_20 gf_X10_46 rfl rfl ?_
    refine J_iload_n C iX10_ofCurfew_23 rfl rfl ?_
    refine J_iald 9 C iX10_ofCurfew_24 rfl (vp_in_nI (n := i) (by omega) (by decide)) ?_
    rw [nI_clamp (n := i) (by omega)]
    refine J_iconst (-1) C iX10_ofCurfew_25 rfl ?_
    refine J_icmpne 37 C iX10_ofCurfew_26 rfl (fun h26 => ?_) (fun h26 => ?_)
    · refine J_aload_n C iX10_ofCurfew_37 rfl rfl ?_
      refine J_iload_n C iX10_ofCurfew_38 rfl rfl ?_
      refine J_iald 9 C iX10_ofCurfew_39 rfl (vp_in_nI (n := i) (by omega) (by decide)) ?_
      rw [nI_clamp (n := i) (by omega)]
      exact J_iret C E iX10_ofCurfew_40 (Or.inr (Or.inr ⟨i, h_i, rfl, h26, rfl, rfl⟩))
    · refine J_aload_n C iX10_ofCurfew_29 rfl rfl ?_
      refine J_iconst 2 C iX10_ofCurfew_30 rfl ?_
      refine J_cVb (As := [.int 2]) (st := []) (rc2 := (rmK 2).cells) (rs2 := (rmK 2).slots) C iX10_ofCurfew_31 lm_X10_380 yc_X10_no yv_X10_no c_X10_no (q0 := 0) rfl rfl rfl [] [] rfl rfl (rmK_le (by omega) (by decide)) (Nat.le_of_ble_eq_true rfl) rfl rfl ?_
      rintro _ _ ⟨rfl, rfl⟩
      refine J_st (.int 0 :: []) rfl ?_
      refine J_ws (wMd Z mo pl 2 sz ea tk dp lr dy ca kn tp kd fr me va wo pc ht fs la kh kf kl sh dk sk ++ wPl Z pl (nI N) ls mn hn ha hh dz wh bg en od wi al) rfl ?_
      refine J_goto 40 C iX10_ofCurfew_34 rfl ?_
      exact J_iret C E iX10_ofCurfew_40 (Or.inr (Or.inl ⟨i, h_i, rfl, h26, rfl, rfl⟩))
  · refine J_st (.int (b2i false) :: []) rfl ?_
    refine J_ws (wMd Z mo pl 0 sz ea tk dp lr dy ca kn tp kd fr me va wo pc ht fs la kh kf kl sh dk sk ++ wPl Z pl (nI N) ls mn hn ha hh dz wh bg en od wi al) (by simp only [List.append_assoc, List.append_nil, List.nil_append]) ?_
    refine J_ifneb 19 C iX10_ofCurfew_10 rfl (fun h10 => absurd (h10.symm.trans rfl) (by decide)) (fun h10 => ?_)
    refine J_aload_n C iX10_ofCurfew_13 rfl rfl ?_
    refine J_iconst 1 C iX10_ofCurfew_14 rfl ?_
    refine J_cVb (As := [.int 1]) (st := []) (rc2 := (rmK 2).cells) (rs2 := (rmK 2).slots) C iX10_ofCurfew_15 lm_X10_380 yc_X10_no yv_X10_no c_X10_no (q0 := 0) rfl rfl rfl [] [] rfl rfl (rmK_le (by omega) (by decide)) (Nat.le_of_ble_eq_true rfl) rfl rfl ?_
    rintro _ _ ⟨rfl, rfl⟩
    refine J_st (.int 0 :: []) rfl ?_
    refine J_ws (wMd Z mo pl 1 sz ea tk dp lr dy ca kn tp kd fr me va wo pc ht fs la kh kf kl sh dk sk ++ wPl Z pl (nI N) ls mn hn ha hh dz wh bg en od wi al) rfl ?_
    exact J_iret C E iX10_ofCurfew_18 (Or.inl ⟨no_q, rfl, rfl⟩)

set_option maxRecDepth 100000 in
set_option maxHeartbeats 4000000 in
theorem c_X10_curfewFrom {Z : GZ} {l : Launch} {mo pl : Nat → Nat} {N : Nat} {th sz ea tk dp lr dy ca ls mn : Int32} {kn : Bool} {hn va : Nat → Int64} {ha hh dz wh bg en od wi al tp kd fr me wo pc ht fs la kh kf kl sh dk sk : Nat → Int32} {q : Int32} (hN : N ≤ 12) (ok : kn = true → LkOk N pc ht fs la sh dk)  : Ct Z l yX10_curfewFrom cX10_curfewFrom 2 (some .int) (rmK 3) [.ref (mo 0), .int q] (wMd Z mo pl th sz ea tk dp lr dy ca kn tp kd fr me va wo pc ht fs la kh kf kl sh dk sk ++ wPl Z pl (nI N) ls mn hn ha hh dz wh bg en od wi al) (fun v w => ((¬ ∃ i, i < N ∧ q = nI i) ∧ v = some (.int 0) ∧ w = (wMd Z mo pl 1 sz ea tk dp lr dy ca kn tp kd fr me va wo pc ht fs la kh kf kl sh dk sk ++ wPl Z pl (nI N) ls mn hn ha hh dz wh bg en od wi al)) ∨ (∃ i, i < N ∧ q = nI i ∧ fs i = -1 ∧ v = some (.int 0) ∧ w = (wMd Z mo pl 2 sz ea tk dp lr dy ca kn tp kd fr me va wo pc ht fs la kh kf kl sh dk sk ++ wPl Z pl (nI N) ls mn hn ha hh dz wh bg en od wi al)) ∨ (∃ i, i < N ∧ q = nI i ∧ ¬ fs i = -1 ∧ v = some (.int (fs i)) ∧ w = (wMd Z mo pl 0 sz ea tk dp lr dy ca kn tp kd fr me va wo pc ht fs la kh kf kl sh dk sk ++ wPl Z pl (nI N) ls mn hn ha hh dz wh bg en od wi al))) := by
  refine Ct.ofJ (own := RX10) (nm := "curfewFrom") (lv0 := [(0, .ref (mo 0)), (1, .int q)]) (by decide) rfl rfl (Nat.le_of_ble_eq_true rfl) rfl (fun X hXl C E => ?_)
  subst hXl
  refine J_aload_n C iX10_curfewFrom_0 rfl rfl ?_
  refine J_iload_n C iX10_curfewFrom_1 rfl rfl ?_
  refine J_aload_n C iX10_curfewFrom_2 rfl rfl ?_
  refine J_get (.ref (mo 9)) 0 C iX10_curfewFrom_3 gf_X10_46 rfl rfl ?_
  refine J_cVb (As := [.int q, .ref (mo 9)]) (st := []) (rc2 := (rmK 3).cells) (rs2 := (rmK 3).slots) C iX10_curfewFrom_6 lm_X10_401 yc_X10_ofCurfew yv_X10_ofCurfew (c_X10_ofCurfew_fs (q := q) hN ok) (q0 := 0) rfl rfl rfl [] [] rfl rfl (rmK_le (by omega) (by decide)) (Nat.le_of_ble_eq_true rfl) rfl rfl ?_
  rintro _ _ (⟨a1, rfl, rfl⟩ | ⟨i, a1, a2, a3, rfl, rfl⟩ | ⟨i, a1, a2, a3, rfl, rfl⟩)
  · refine J_st (.int 0 :: []) rfl ?_
    refine J_ws (wMd Z mo pl 1 sz ea tk dp lr dy ca kn tp kd fr me va wo pc ht fs la kh kf kl sh dk sk ++ wPl Z pl (nI N) ls mn hn ha hh dz wh bg en od wi al) (by simp only [List.append_assoc, List.append_nil, List.nil_append]) ?_
    exact J_iret C E iX10_curfewFrom_9 (Or.inl ⟨a1, rfl, rfl⟩)
  · refine J_st (.int 0 :: []) rfl ?_
    refine J_ws (wMd Z mo pl 2 sz ea tk dp lr dy ca kn tp kd fr me va wo pc ht fs la kh kf kl sh dk sk ++ wPl Z pl (nI N) ls mn hn ha hh dz wh bg en od wi al) (by simp only [List.append_assoc, List.append_nil, List.nil_append]) ?_
    exact J_iret C E iX10_curfewFrom_9 (Or.inr (Or.inl ⟨i, a1, a2, a3, rfl, rfl⟩))
  · refine J_st (.int (fs i) :: []) rfl ?_
    refine J_ws (wMd Z mo pl 0 sz ea tk dp lr dy ca kn tp kd fr me va wo pc ht fs la kh kf kl sh dk sk ++ wPl Z pl (nI N) ls mn hn ha hh dz wh bg en od wi al) (by simp only [List.append_assoc, List.append_nil, List.nil_append]) ?_
    exact J_iret C E iX10_curfewFrom_9 (Or.inr (Or.inr ⟨i, a1, a2, a3, rfl, rfl⟩))

set_option maxRecDepth 100000 in
set_option maxHeartbeats 4000000 in
theorem c_X10_ofCurfew_la {Z : GZ} {l : Launch} {mo pl : Nat → Nat} {N : Nat} {th sz ea tk dp lr dy ca ls mn : Int32} {kn : Bool} {hn va : Nat → Int64} {ha hh dz wh bg en od wi al tp kd fr me wo pc ht fs la kh kf kl sh dk sk : Nat → Int32} {q : Int32} (hN : N ≤ 12) (ok : kn = true → LkOk N pc ht fs la sh dk)  : Ct Z l yX10_ofCurfew cX10_ofCurfew 3 (some .int) (rmK 2) [.ref (mo 0), .int q, .ref (mo 10)] (wMd Z mo pl th sz ea tk dp lr dy ca kn tp kd fr me va wo pc ht fs la kh kf kl sh dk sk ++ wPl Z pl (nI N) ls mn hn ha hh dz wh bg en od wi al) (fun v w => ((¬ ∃ i, i < N ∧ q = nI i) ∧ v = some (.int 0) ∧ w = (wMd Z mo pl 1 sz ea tk dp lr dy ca kn tp kd fr me va wo pc ht fs la kh kf kl sh dk sk ++ wPl Z pl (nI N) ls mn hn ha hh dz wh bg en od wi al)) ∨ (∃ i, i < N ∧ q = nI i ∧ fs i = -1 ∧ v = some (.int 0) ∧ w = (wMd Z mo pl 2 sz ea tk dp lr dy ca kn tp kd fr me va wo pc ht fs la kh kf kl sh dk sk ++ wPl Z pl (nI N) ls mn hn ha hh dz wh bg en od wi al)) ∨ (∃ i, i < N ∧ q = nI i ∧ ¬ fs i = -1 ∧ v = some (.int (la i)) ∧ w = (wMd Z mo pl 0 sz ea tk dp lr dy ca kn tp kd fr me va wo pc ht fs la kh kf kl sh dk sk ++ wPl Z pl (nI N) ls mn hn ha hh dz wh bg en od wi al))) := by
  refine Ct.ofJ (own := RX10) (nm := "ofCurfew") (lv0 := [(0, .ref (mo 0)), (1, .int q), (2, .ref (mo 10))]) (by decide) rfl rfl (Nat.le_of_ble_eq_true rfl) rfl (fun X hXl C E => ?_)
  subst hXl
  refine J_aload_n C iX10_ofCurfew_0 rfl rfl ?_
  refine J_iconst 0 C iX10_ofCurfew_1 rfl ?_
  refine J_put (wMd Z mo pl 0 sz ea tk dp lr dy ca kn tp kd fr me va wo pc ht fs la kh kf kl sh dk sk ++ wPl Z pl (nI N) ls mn hn ha hh dz wh bg en od wi al) 0 C iX10_ofCurfew_2 pf_X10_70 rfl rfl rfl (Nat.le_of_ble_eq_true rfl) rfl ?_
  refine J_aload_n C iX10_ofCurfew_5 rfl rfl ?_
  refine J_iload_n C iX10_ofCurfew_6 rfl rfl ?_
  refine J_cVb (As := [.int q]) (st := []) (rc2 := (rmK 2).cells) (rs2 := (rmK 2).slots) C iX10_ofCurfew_7 lm_X10_395 yc_X10_isHouse yv_X10_isHouse (c_X10_isHouse2 (q := q) hN) (q0 := 0) rfl rfl rfl [] [] rfl rfl (rmK_le (by omega) (by decide)) (Nat.le_of_ble_eq_true rfl) rfl rfl ?_
  rintro _ _ (⟨i, h_i, rfl, rfl, rfl⟩ | ⟨no_q, rfl, rfl⟩)
  · refine J_st (.int (b2i true) :: []) rfl ?_
    refine J_ws (wMd Z mo pl 0 sz ea tk dp lr dy ca kn tp kd fr me va wo pc ht fs la kh kf kl sh dk sk ++ wPl Z pl (nI N) ls mn hn ha hh dz wh bg en od wi al) (by simp only [List.append_assoc, List.append_nil, List.nil_append]) ?_
    refine J_ifneb 19 C iX10_ofCurfew_10 rfl (fun h10 => ?_) (fun h10 => absurd (h10.symm.trans rfl) (by decide))
    refine J_aload_n C iX10_ofCurfew_19 rfl rfl ?_
    refine J_get (.ref (mo 9)) 0 C iX10_ofCurfew_20 gf_X10_46 rfl rfl ?_
    refine J_iload_n C iX10_ofCurfew_23 rfl rfl ?_
    refine J_iald 9 C iX10_ofCurfew_24 rfl (vp_in_nI (n := i) (by omega) (by decide)) ?_
    rw [nI_clamp (n := i) (by omega)]
    refine J_iconst (-1) C iX10_ofCurfew_25 rfl ?_
    refine J_icmpne 37 C iX10_ofCurfew_26 rfl (fun h26 => ?_) (fun h26 => ?_)
    · refine J_aload_n C iX10_ofCurfew_37 rfl rfl ?_
      refine J_iload_n C iX10_ofCurfew_38 rfl rfl ?_
      refine J_iald 10 C iX10_ofCurfew_39 rfl (vp_in_nI (n := i) (by omega) (by decide)) ?_
      rw [nI_clamp (n := i) (by omega)]
      exact J_iret C E iX10_ofCurfew_40 (Or.inr (Or.inr ⟨i, h_i, rfl, h26, rfl, rfl⟩))
    · refine J_aload_n C iX10_ofCurfew_29 rfl rfl ?_
      refine J_iconst 2 C iX10_ofCurfew_30 rfl ?_
      refine J_cVb (As := [.int 2]) (st := []) (rc2 := (rmK 2).cells) (rs2 := (rmK 2).slots) C iX10_ofCurfew_31 lm_X10_380 yc_X10_no yv_X10_no c_X10_no (q0 := 0) rfl rfl rfl [] [] rfl rfl (rmK_le (by omega) (by decide)) (Nat.le_of_ble_eq_true rfl) rfl rfl ?_
      rintro _ _ ⟨rfl, rfl⟩
      refine J_st (.int 0 :: []) rfl ?_
      refine J_ws (wMd Z mo pl 2 sz ea tk dp lr dy ca kn tp kd fr me va wo pc ht fs la kh kf kl sh dk sk ++ wPl Z pl (nI N) ls mn hn ha hh dz wh bg en od wi al) rfl ?_
      refine J_goto 40 C iX10_ofCurfew_34 rfl ?_
      exact J_iret C E iX10_ofCurfew_40 (Or.inr (Or.inl ⟨i, h_i, rfl, h26, rfl, rfl⟩))
  · refine J_st (.int (b2i false) :: []) rfl ?_
    refine J_ws (wMd Z mo pl 0 sz ea tk dp lr dy ca kn tp kd fr me va wo pc ht fs la kh kf kl sh dk sk ++ wPl Z pl (nI N) ls mn hn ha hh dz wh bg en od wi al) (by simp only [List.append_assoc, List.append_nil, List.nil_append]) ?_
    refine J_ifneb 19 C iX10_ofCurfew_10 rfl (fun h10 => absurd (h10.symm.trans rfl) (by decide)) (fun h10 => ?_)
    refine J_aload_n C iX10_ofCurfew_13 rfl rfl ?_
    refine J_iconst 1 C iX10_ofCurfew_14 rfl ?_
    refine J_cVb (As := [.int 1]) (st := []) (rc2 := (rmK 2).cells) (rs2 := (rmK 2).slots) C iX10_ofCurfew_15 lm_X10_380 yc_X10_no yv_X10_no c_X10_no (q0 := 0) rfl rfl rfl [] [] rfl rfl (rmK_le (by omega) (by decide)) (Nat.le_of_ble_eq_true rfl) rfl rfl ?_
    rintro _ _ ⟨rfl, rfl⟩
    refine J_st (.int 0 :: []) rfl ?_
    refine J_ws (wMd Z mo pl 1 sz ea tk dp lr dy ca kn tp kd fr me va wo pc ht fs la kh kf kl sh dk sk ++ wPl Z pl (nI N) ls mn hn ha hh dz wh bg en od wi al) rfl ?_
    exact J_iret C E iX10_ofCurfew_18 (Or.inl ⟨no_q, rfl, rfl⟩)

set_option maxRecDepth 100000 in
set_option maxHeartbeats 4000000 in
theorem c_X10_curfewTo {Z : GZ} {l : Launch} {mo pl : Nat → Nat} {N : Nat} {th sz ea tk dp lr dy ca ls mn : Int32} {kn : Bool} {hn va : Nat → Int64} {ha hh dz wh bg en od wi al tp kd fr me wo pc ht fs la kh kf kl sh dk sk : Nat → Int32} {q : Int32} (hN : N ≤ 12) (ok : kn = true → LkOk N pc ht fs la sh dk)  : Ct Z l yX10_curfewTo cX10_curfewTo 2 (some .int) (rmK 3) [.ref (mo 0), .int q] (wMd Z mo pl th sz ea tk dp lr dy ca kn tp kd fr me va wo pc ht fs la kh kf kl sh dk sk ++ wPl Z pl (nI N) ls mn hn ha hh dz wh bg en od wi al) (fun v w => ((¬ ∃ i, i < N ∧ q = nI i) ∧ v = some (.int 0) ∧ w = (wMd Z mo pl 1 sz ea tk dp lr dy ca kn tp kd fr me va wo pc ht fs la kh kf kl sh dk sk ++ wPl Z pl (nI N) ls mn hn ha hh dz wh bg en od wi al)) ∨ (∃ i, i < N ∧ q = nI i ∧ fs i = -1 ∧ v = some (.int 0) ∧ w = (wMd Z mo pl 2 sz ea tk dp lr dy ca kn tp kd fr me va wo pc ht fs la kh kf kl sh dk sk ++ wPl Z pl (nI N) ls mn hn ha hh dz wh bg en od wi al)) ∨ (∃ i, i < N ∧ q = nI i ∧ ¬ fs i = -1 ∧ v = some (.int (la i)) ∧ w = (wMd Z mo pl 0 sz ea tk dp lr dy ca kn tp kd fr me va wo pc ht fs la kh kf kl sh dk sk ++ wPl Z pl (nI N) ls mn hn ha hh dz wh bg en od wi al))) := by
  refine Ct.ofJ (own := RX10) (nm := "curfewTo") (lv0 := [(0, .ref (mo 0)), (1, .int q)]) (by decide) rfl rfl (Nat.le_of_ble_eq_true rfl) rfl (fun X hXl C E => ?_)
  subst hXl
  refine J_aload_n C iX10_curfewTo_0 rfl rfl ?_
  refine J_iload_n C iX10_curfewTo_1 rfl rfl ?_
  refine J_aload_n C iX10_curfewTo_2 rfl rfl ?_
  refine J_get (.ref (mo 10)) 0 C iX10_curfewTo_3 gf_X10_49 rfl rfl ?_
  refine J_cVb (As := [.int q, .ref (mo 10)]) (st := []) (rc2 := (rmK 3).cells) (rs2 := (rmK 3).slots) C iX10_curfewTo_6 lm_X10_401 yc_X10_ofCurfew yv_X10_ofCurfew (c_X10_ofCurfew_la (q := q) hN ok) (q0 := 0) rfl rfl rfl [] [] rfl rfl (rmK_le (by omega) (by decide)) (Nat.le_of_ble_eq_true rfl) rfl rfl ?_
  rintro _ _ (⟨a1, rfl, rfl⟩ | ⟨i, a1, a2, a3, rfl, rfl⟩ | ⟨i, a1, a2, a3, rfl, rfl⟩)
  · refine J_st (.int 0 :: []) rfl ?_
    refine J_ws (wMd Z mo pl 1 sz ea tk dp lr dy ca kn tp kd fr me va wo pc ht fs la kh kf kl sh dk sk ++ wPl Z pl (nI N) ls mn hn ha hh dz wh bg en od wi al) (by simp only [List.append_assoc, List.append_nil, List.nil_append]) ?_
    exact J_iret C E iX10_curfewTo_9 (Or.inl ⟨a1, rfl, rfl⟩)
  · refine J_st (.int 0 :: []) rfl ?_
    refine J_ws (wMd Z mo pl 2 sz ea tk dp lr dy ca kn tp kd fr me va wo pc ht fs la kh kf kl sh dk sk ++ wPl Z pl (nI N) ls mn hn ha hh dz wh bg en od wi al) (by simp only [List.append_assoc, List.append_nil, List.nil_append]) ?_
    exact J_iret C E iX10_curfewTo_9 (Or.inr (Or.inl ⟨i, a1, a2, a3, rfl, rfl⟩))
  · refine J_st (.int (la i) :: []) rfl ?_
    refine J_ws (wMd Z mo pl 0 sz ea tk dp lr dy ca kn tp kd fr me va wo pc ht fs la kh kf kl sh dk sk ++ wPl Z pl (nI N) ls mn hn ha hh dz wh bg en od wi al) (by simp only [List.append_assoc, List.append_nil, List.nil_append]) ?_
    exact J_iret C E iX10_curfewTo_9 (Or.inr (Or.inr ⟨i, a1, a2, a3, rfl, rfl⟩))

set_option maxRecDepth 100000 in
set_option maxHeartbeats 4000000 in
theorem c_X10_darkestWall {Z : GZ} {l : Launch} {mo pl : Nat → Nat} {N : Nat} {th sz ea tk dp lr dy ca ls mn : Int32} {kn : Bool} {hn va : Nat → Int64} {ha hh dz wh bg en od wi al tp kd fr me wo pc ht fs la kh kf kl sh dk sk : Nat → Int32} (hN : N ≤ 12) (ok : kn = true → LkOk N pc ht fs la sh dk)  : Ct Z l yX10_darkestWall cX10_darkestWall 3 (some .int) (rmK 9) [.ref (mo 0)] (wMd Z mo pl th sz ea tk dp lr dy ca kn tp kd fr me va wo pc ht fs la kh kf kl sh dk sk ++ wPl Z pl (nI N) ls mn hn ha hh dz wh bg en od wi al) (fun v w => (N = 0 ∧ v = some (.int 0) ∧ w = (wMd Z mo pl 1 sz ea tk dp lr dy ca kn tp kd fr me va wo pc ht fs la kh kf kl sh dk sk ++ wPl Z pl (nI N) ls mn hn ha hh dz wh bg en od wi al)) ∨ (∃ kn2 sh2 dk2, ¬ N = 0 ∧ v = some (.int (nI (amx (ctM N pc ht fs la) N))) ∧ w = (wMd Z mo pl 0 sz ea tk dp lr dy ca kn2 tp kd fr me va wo pc ht fs la kh kf kl sh2 dk2 sk ++ wPl Z pl (nI N) ls mn hn ha hh dz wh bg en od wi al) ∧ (kn2 = true → LkOk N pc ht fs la sh2 dk2))) := by
  refine Ct.ofJ (own := RX10) (nm := "darkestWall") (lv0 := [(0, .ref (mo 0))]) (by decide) rfl rfl (Nat.le_of_ble_eq_true rfl) rfl (fun X hXl C E => ?_)
  subst hXl
  refine J_aload_n C iX10_darkestWall_0 rfl rfl ?_
  refine J_iconst 0 C iX10_darkestWall_1 rfl ?_
  refine J_put (wMd Z mo pl 0 sz ea tk dp lr dy ca kn tp kd fr me va wo pc ht fs la kh kf kl sh dk sk ++ wPl Z pl (nI N) ls mn hn ha hh dz wh bg en od wi al) 0 C iX10_darkestWall_2 pf_X10_70 rfl rfl rfl (Nat.le_of_ble_eq_true rfl) rfl ?_
  refine J_aload_n C iX10_darkestWall_5 rfl rfl ?_
  refine J_get (.ref (pl 0)) 0 C iX10_darkestWall_6 gf_X10_20 rfl rfl ?_
  refine J_get (.int (nI N)) 17 C iX10_darkestWall_9 gf_X10_73 rfl rfl ?_
  refine J_ifne 21 C iX10_darkestWall_12 rfl (fun h12 => ?_) (fun h12 => ?_)
  · refine J_iconst 0 C iX10_darkestWall_21 rfl ?_
    refine J_istore_n [(1, .int 0), (0, .ref (mo 0))] C iX10_darkestWall_22 rfl (by decide) rfl ?_
    refine J_iconst 1 C iX10_darkestWall_23 rfl ?_
    refine J_istore_n [(2, .int 1), (1, .int 0), (0, .ref (mo 0))] C iX10_darkestWall_24 rfl (by decide) rfl ?_
    have hN0 : 1 ≤ N := Nat.one_le_iff_ne_zero.mpr (fun e => h12 (by rw [e]; rfl))
    refine J_lvm [(1, .int (nI (amx (ctM N pc ht fs la) 1))), (2, .int 1), (0, .ref (mo 0))] (by rw [amx_1]; rfl) ?_
    refine J_lvm [(1, .int (nI (amx (ctM N pc ht fs la) 1))), (2, .int 1), (0, .ref (mo 0))] (by rfl) ?_
    refine J_forI (σ := Bool × (Nat → Int32) × (Nat → Int32)) (fun k q => [(1, .int (nI (amx (ctM N pc ht fs la) k))), (2, .int (nI k)), (0, .ref (mo 0))]) (fun k q => (wMd Z mo pl 0 sz ea tk dp lr dy ca q.1 tp kd fr me va wo pc ht fs la kh kf kl q.2.1 q.2.2 sk ++ wPl Z pl (nI N) ls mn hn ha hh dz wh bg en od wi al)) (fun k q => q.1 = true → LkOk N pc ht fs la q.2.1 q.2.2) N 1 (kn, sh, dk) (by omega) ok ?_ ?_
    · rintro ⟨kn5, sh5, dk5⟩ hI
      dsimp only at hI ⊢
      refine J_iload_n C iX10_darkestWall_25 rfl rfl ?_
      refine J_aload_n C iX10_darkestWall_26 rfl rfl ?_
      refine J_get (.ref (pl 0)) 0 C iX10_darkestWall_27 gf_X10_20 rfl rfl ?_
      refine J_get (.int (nI N)) 17 C iX10_darkestWall_30 gf_X10_73 rfl rfl ?_
      refine J_icmpge 57 C iX10_darkestWall_33 rfl (fun h33 => ?_) (fun h33 => absurd (nI_le (Nat.le_refl N) (by omega)) h33)
      refine J_iload_n C iX10_darkestWall_57 rfl rfl ?_
      exact J_iret C E iX10_darkestWall_58 (Or.inr ⟨kn5, sh5, dk5, fun e => h12 (by rw [e]; rfl), rfl, rfl, hI⟩)
    · rintro k ⟨kn5, sh5, dk5⟩ hk0 hk hI ih
      dsimp only at hI ⊢
      have hax := amx_lt' (f := (ctM N pc ht fs la)) (k := k) hk0
      refine J_iload_n C iX10_darkestWall_25 rfl rfl ?_
      refine J_aload_n C iX10_darkestWall_26 rfl rfl ?_
      refine J_get (.ref (pl 0)) 0 C iX10_darkestWall_27 gf_X10_20 rfl rfl ?_
      refine J_get (.int (nI N)) 17 C iX10_darkestWall_30 gf_X10_73 rfl rfl ?_
      refine J_icmpge 57 C iX10_darkestWall_33 rfl (fun h33 => absurd h33 (nI_ge hk (by omega))) (fun h33 => ?_)
      refine J_aload_n C iX10_darkestWall_36 rfl rfl ?_
      refine J_iload_n C iX10_darkestWall_37 rfl rfl ?_
      refine J_cVb (As := [.int (nI k)]) (st := []) (rc2 := (rmK 9).cells) (rs2 := (rmK 9).slots) C iX10_darkestWall_38 lm_X10_189 yc_X10_castOf yv_X10_castOf (c_X10_castOf hN hI (by omega)) (q0 := 0) rfl rfl rfl [] [] rfl rfl (rmK_le (by omega) (by decide)) (Nat.le_of_ble_eq_true rfl) rfl rfl ?_
      rintro _ _ ⟨kn_1, sh_1, dk_1, rfl, rfl, okk1⟩
      refine J_st (.int (ctM N pc ht fs la k) :: []) rfl ?_
      refine J_ws (wMd Z mo pl 0 sz ea tk dp lr dy ca kn_1 tp kd fr me va wo pc ht fs la kh kf kl sh_1 dk_1 sk ++ wPl Z pl (nI N) ls mn hn ha hh dz wh bg en od wi al) rfl ?_
      refine J_aload_n C iX10_darkestWall_41 rfl rfl ?_
      refine J_iload_n C iX10_darkestWall_42 rfl rfl ?_
      refine J_cVb (As := [.int (nI (amx (ctM N pc ht fs la) k))]) (st := .int (ctM N pc ht fs la k) :: []) (rc2 := (rmK 9).cells) (rs2 := (rmK 9).slots) C iX10_darkestWall_43 lm_X10_189 yc_X10_castOf yv_X10_castOf (c_X10_castOf hN okk1 (by omega)) (q0 := 0) rfl rfl rfl [] [] rfl rfl (rmK_le (by omega) (by decide)) (Nat.le_of_ble_eq_true rfl) rfl rfl ?_
      rintro _ _ ⟨kn_2, sh_2, dk_2, rfl, rfl, okk2⟩
      refine J_st (.int (ctM N pc ht fs la (amx (ctM N pc ht fs la) k)) :: .int (ctM N pc ht fs la k) :: []) rfl ?_
      refine J_ws (wMd Z mo pl 0 sz ea tk dp lr dy ca kn_2 tp kd fr me va wo pc ht fs la kh kf kl sh_2 dk_2 sk ++ wPl Z pl (nI N) ls mn hn ha hh dz wh bg en od wi al) rfl ?_
      refine J_icmple 51 C iX10_darkestWall_46 rfl (fun h46 => ?_) (fun h46 => ?_)
      · refine J_iinc ((nI k) + 1) [(2, .int ((nI k) + 1)), (1, .int (nI (amx (ctM N pc ht fs la) k))), (0, .ref (mo 0))] C iX10_darkestWall_51 rfl rfl (by decide) rfl ?_
        rw [show (nI k) + 1 = nI (k + 1) from nI_add _ _]
        refine J_goto 25 C iX10_darkestWall_54 rfl ?_
        refine J_lvm [(1, .int (nI (amx (ctM N pc ht fs la) k))), (2, .int (nI (k + 1))), (0, .ref (mo 0))] rfl ?_
        rw [show nI (amx (ctM N pc ht fs la) k) = nI (amx (ctM N pc ht fs la) (k + 1)) from amx_f (Int32.not_lt.mpr h46)]
        exact ih (kn_2, sh_2, dk_2) okk2
      · refine J_iload_n C iX10_darkestWall_49 rfl rfl ?_
        refine J_istore_n [(1, .int (nI k)), (2, .int (nI k)), (0, .ref (mo 0))] C iX10_darkestWall_50 rfl (by decide) rfl ?_
        refine J_iinc ((nI k) + 1) [(2, .int ((nI k) + 1)), (1, .int (nI k)), (0, .ref (mo 0))] C iX10_darkestWall_51 rfl rfl (by decide) rfl ?_
        rw [show (nI k) + 1 = nI (k + 1) from nI_add _ _]
        refine J_goto 25 C iX10_darkestWall_54 rfl ?_
        refine J_lvm [(1, .int (nI k)), (2, .int (nI (k + 1))), (0, .ref (mo 0))] rfl ?_
        rw [show nI k = nI (amx (ctM N pc ht fs la) (k + 1)) from amx_t (Int32.not_le.mp h46)]
        exact ih (kn_2, sh_2, dk_2) okk2
  · refine J_aload_n C iX10_darkestWall_15 rfl rfl ?_
    refine J_iconst 1 C iX10_darkestWall_16 rfl ?_
    refine J_cVb (As := [.int 1]) (st := []) (rc2 := (rmK 9).cells) (rs2 := (rmK 9).slots) C iX10_darkestWall_17 lm_X10_380 yc_X10_no yv_X10_no c_X10_no (q0 := 0) rfl rfl rfl [] [] rfl rfl (rmK_le (by omega) (by decide)) (Nat.le_of_ble_eq_true rfl) rfl rfl ?_
    rintro _ _ ⟨rfl, rfl⟩
    refine J_st (.int 0 :: []) rfl ?_
    refine J_ws (wMd Z mo pl 1 sz ea tk dp lr dy ca kn tp kd fr me va wo pc ht fs la kh kf kl sh dk sk ++ wPl Z pl (nI N) ls mn hn ha hh dz wh bg en od wi al) rfl ?_
    exact J_iret C E iX10_darkestWall_20 (Or.inl ⟨(nI_eq (a := N) (b := 0) (by omega) (by decide)).mp h12, rfl, rfl⟩)

set_option maxRecDepth 100000 in
set_option maxHeartbeats 4000000 in
theorem c_X10_move {Z : GZ} {l : Launch} {mo pl : Nat → Nat} {N : Nat} {th sz ea tk dp lr dy ca ls mn : Int32} {kn : Bool} {hn va : Nat → Int64} {ha hh dz wh bg en od wi al tp kd fr me wo pc ht fs la kh kf kl sh dk sk : Nat → Int32} {q x : Int32} (hN : N ≤ 12) (ok : kn = true → LkOk N pc ht fs la sh dk)  : Ct Z l yX10_move cX10_move 4 (some .int) (rmK 9) [.ref (mo 0), .int q, .int x] (wMd Z mo pl th sz ea tk dp lr dy ca kn tp kd fr me va wo pc ht fs la kh kf kl sh dk sk ++ wPl Z pl (nI N) ls mn hn ha hh dz wh bg en od wi al) (fun v w => ((¬ ∃ i, i < N ∧ q = nI i) ∧ v = some (.int 0) ∧ w = (wMd Z mo pl 1 sz ea tk dp lr dy ca kn tp kd fr me va wo pc ht fs la kh kf kl sh dk sk ++ wPl Z pl (nI N) ls mn hn ha hh dz wh bg en od wi al)) ∨ ((∃ i, i < N ∧ q = nI i) ∧ inX x 0 99 = false ∧ v = some (.int 0) ∧ w = (wMd Z mo pl 2 sz ea tk dp lr dy ca kn tp kd fr me va wo pc ht fs la kh kf kl sh dk sk ++ wPl Z pl (nI N) ls mn hn ha hh dz wh bg en od wi al)) ∨ (∃ i, i < N ∧ q = nI i ∧ inX x 0 99 = true ∧ (∃ h, h < N ∧ h ≠ i ∧ pc h = x) ∧ v = some (.int 0) ∧ w = (wMd Z mo pl 3 sz ea tk dp lr dy ca kn tp kd fr me va wo pc ht fs la kh kf kl sh dk sk ++ wPl Z pl (nI N) ls mn hn ha hh dz wh bg en od wi al)) ∨ (∃ i, i < N ∧ q = nI i ∧ inX x 0 99 = true ∧ ¬ (∃ h, h < N ∧ h ≠ i ∧ pc h = x) ∧ v = some (.int (pc i)) ∧ w = (wMd Z mo pl 0 sz ea tk dp lr dy ca false tp kd fr me va wo (upd pc i x) ht fs la kh kf kl sh dk sk ++ wPl Z pl (nI N) ls mn hn ha hh dz wh bg en od wi al))) := by
  refine Ct.ofJ (own := RX10) (nm := "move") (lv0 := [(0, .ref (mo 0)), (1, .int q), (2, .int x)]) (by decide) rfl rfl (Nat.le_of_ble_eq_true rfl) rfl (fun X hXl C E => ?_)
  subst hXl
  refine J_aload_n C iX10_move_0 rfl rfl ?_
  refine J_iconst 0 C iX10_move_1 rfl ?_
  refine J_put (wMd Z mo pl 0 sz ea tk dp lr dy ca kn tp kd fr me va wo pc ht fs la kh kf kl sh dk sk ++ wPl Z pl (nI N) ls mn hn ha hh dz wh bg en od wi al) 0 C iX10_move_2 pf_X10_70 rfl rfl rfl (Nat.le_of_ble_eq_true rfl) rfl ?_
  refine J_aload_n C iX10_move_5 rfl rfl ?_
  refine J_iload_n C iX10_move_6 rfl rfl ?_
  refine J_cVb (As := [.int q]) (st := []) (rc2 := (rmK 9).cells) (rs2 := (rmK 9).slots) C iX10_move_7 lm_X10_395 yc_X10_isHouse yv_X10_isHouse (c_X10_isHouse2 (q := q) hN) (q0 := 0) rfl rfl rfl [] [] rfl rfl (rmK_le (by omega) (by decide)) (Nat.le_of_ble_eq_true rfl) rfl rfl ?_
  rintro _ _ (⟨i, h_i, rfl, rfl, rfl⟩ | ⟨no_q, rfl, rfl⟩)
  · refine J_st (.int (b2i true) :: []) rfl ?_
    refine J_ws (wMd Z mo pl 0 sz ea tk dp lr dy ca kn tp kd fr me va wo pc ht fs la kh kf kl sh dk sk ++ wPl Z pl (nI N) ls mn hn ha hh dz wh bg en od wi al) (by simp only [List.append_assoc, List.append_nil, List.nil_append]) ?_
    refine J_ifneb 19 C iX10_move_10 rfl (fun h10 => ?_) (fun h10 => absurd (h10.symm.trans rfl) (by decide))
    refine J_iload_n C iX10_move_19 rfl rfl ?_
    refine J_iconst 0 C iX10_move_20 rfl ?_
    refine J_bipush 99 C iX10_move_21 rfl ?_
    refine J_cSp (As := [.int x, .int 0, .int 99]) (st := []) C iX10_move_23 lm_X10_76 yc_X10_isIn ys_X10_isIn (c_X10_isIn (q := x) (a := 0) (b := 99)) rfl (rmK_le (by omega) (by decide)) (Nat.le_of_ble_eq_true rfl) ⟨rfl, rfl⟩ ?_
    rintro _ rfl
    refine J_st (.int (b2i (inX x 0 99)) :: []) rfl ?_
    refine J_ifneb 35 C iX10_move_26 rfl (fun h26 => ?_) (fun h26 => ?_)
    · refine J_iconst 0 C iX10_move_35 rfl ?_
      refine J_istore_n [(3, .int 0), (0, .ref (mo 0)), (1, .int (nI i)), (2, .int x)] C iX10_move_36 rfl (by decide) rfl ?_
      refine J_lvm [(3, .int 0), (0, .ref (mo 0)), (1, .int (nI i)), (2, .int x)] rfl ?_
      refine J_forP (fun k => [(3, .int (nI k)), (0, .ref (mo 0)), (1, .int (nI i)), (2, .int x)]) (fun k => (wMd Z mo pl 0 sz ea tk dp lr dy ca kn tp kd fr me va wo pc ht fs la kh kf kl sh dk sk ++ wPl Z pl (nI N) ls mn hn ha hh dz wh bg en od wi al)) (fun k => ∀ h, h < k → ¬ (h ≠ i ∧ pc h = x)) N 0 (by omega) (fun _ h => absurd h (Nat.not_lt_zero _)) (fun hI => ?_) (fun k hk0 hk hI ih => ?_)
      · refine J_iload_n C iX10_move_37 rfl rfl ?_
        refine J_aload_n C iX10_move_38 rfl rfl ?_
        refine J_get (.ref (pl 0)) 0 C iX10_move_39 gf_X10_20 rfl rfl ?_
        refine J_get (.int (nI N)) 17 C iX10_move_42 gf_X10_73 rfl rfl ?_
        refine J_icmpge 75 C iX10_move_45 rfl (fun h45 => ?_) (fun h45 => absurd (nI_le (Nat.le_refl N) (by omega)) h45)
        refine J_aload_n C iX10_move_75 rfl rfl ?_
        refine J_get (.ref (mo 7)) 0 C iX10_move_76 gf_X10_40 rfl rfl ?_
        refine J_iload_n C iX10_move_79 rfl rfl ?_
        refine J_iald 7 C iX10_move_80 rfl (vp_in_nI (n := i) (by omega) (by decide)) ?_
        rw [nI_clamp (n := i) (by omega)]
        refine J_istore_n [(3, .int (pc i)), (0, .ref (mo 0)), (1, .int (nI i)), (2, .int x)] C iX10_move_81 rfl (by decide) rfl ?_
        refine J_aload_n C iX10_move_82 rfl rfl ?_
        refine J_get (.ref (mo 7)) 0 C iX10_move_83 gf_X10_40 rfl rfl ?_
        refine J_iload_n C iX10_move_86 rfl rfl ?_
        refine J_iload_n C iX10_move_87 rfl rfl ?_
        refine J_iast (wMd Z mo pl 0 sz ea tk dp lr dy ca kn tp kd fr me va wo (upd pc (nI i).toNatClampNeg x) ht fs la kh kf kl sh dk sk ++ wPl Z pl (nI N) ls mn hn ha hh dz wh bg en od wi al) 7 C iX10_move_88 rfl (vp_in_nI (n := i) (by omega) (by decide)) rfl ?_
        rw [nI_clamp (n := i) (by omega)]
        refine J_aload_n C iX10_move_89 rfl rfl ?_
        refine J_iconst 0 C iX10_move_90 rfl ?_
        refine J_put (wMd Z mo pl 0 sz ea tk dp lr dy ca false tp kd fr me va wo (upd pc i x) ht fs la kh kf kl sh dk sk ++ wPl Z pl (nI N) ls mn hn ha hh dz wh bg en od wi al) 0 C iX10_move_91 pf_X10_96 rfl rfl rfl (Nat.le_of_ble_eq_true rfl) rfl ?_
        refine J_iload_n C iX10_move_94 rfl rfl ?_
        exact J_iret C E iX10_move_95 (Or.inr (Or.inr (Or.inr ⟨i, h_i, rfl, h26, (fun ⟨h, z1, z2, z3⟩ => hI h z1 ⟨z2, z3⟩), rfl, rfl⟩)))
      · refine J_iload_n C iX10_move_37 rfl rfl ?_
        refine J_aload_n C iX10_move_38 rfl rfl ?_
        refine J_get (.ref (pl 0)) 0 C iX10_move_39 gf_X10_20 rfl rfl ?_
        refine J_get (.int (nI N)) 17 C iX10_move_42 gf_X10_73 rfl rfl ?_
        refine J_icmpge 75 C iX10_move_45 rfl (fun h45 => absurd h45 (nI_ge hk (by omega))) (fun h45 => ?_)
        refine J_iload_n C iX10_move_48 rfl rfl ?_
        refine J_iload_n C iX10_move_49 rfl rfl ?_
        by_cases hs50 : k = i
        · refine J_icmpeq 69 C iX10_move_50 rfl (fun h50 => ?_) (fun h50 => absurd (show nI k = nI i from congrArg nI hs50) h50)
          refine J_iinc ((nI k) + 1) [(3, .int ((nI k) + 1)), (0, .ref (mo 0)), (1, .int (nI i)), (2, .int x)] C iX10_move_69 rfl rfl (by decide) rfl ?_
          rw [show (nI k) + 1 = nI (k + 1) from nI_add _ _]
          refine J_goto 37 C iX10_move_72 rfl ?_
          refine J_lvm [(3, .int (nI (k + 1))), (0, .ref (mo 0)), (1, .int (nI i)), (2, .int x)] rfl ?_
          exact ih (lt_s hI (fun z => z.1 hs50))
        · refine J_icmpeq 69 C iX10_move_50 rfl (fun h50 => absurd h50 (fun e => hs50 ((nI_eq (a := k) (b := i) (by omega) (by omega)).mp e))) (fun h50 => ?_)
          refine J_aload_n C iX10_move_53 rfl rfl ?_
          refine J_get (.ref (mo 7)) 0 C iX10_move_54 gf_X10_40 rfl rfl ?_
          refine J_iload_n C iX10_move_57 rfl rfl ?_
          refine J_iald 7 C iX10_move_58 rfl (vp_in_nI (n := k) (by omega) (by decide)) ?_
          rw [nI_clamp (n := k) (by omega)]
          refine J_iload_n C iX10_move_59 rfl rfl ?_
          refine J_icmpne 69 C iX10_move_60 rfl (fun h60 => ?_) (fun h60 => ?_)
          · refine J_iinc ((nI k) + 1) [(3, .int ((nI k) + 1)), (0, .ref (mo 0)), (1, .int (nI i)), (2, .int x)] C iX10_move_69 rfl rfl (by decide) rfl ?_
            rw [show (nI k) + 1 = nI (k + 1) from nI_add _ _]
            refine J_goto 37 C iX10_move_72 rfl ?_
            refine J_lvm [(3, .int (nI (k + 1))), (0, .ref (mo 0)), (1, .int (nI i)), (2, .int x)] rfl ?_
            exact ih (lt_s hI (fun z => h60 z.2))
          · refine J_aload_n C iX10_move_63 rfl rfl ?_
            refine J_iconst 3 C iX10_move_64 rfl ?_
            refine J_cVb (As := [.int 3]) (st := []) (rc2 := (rmK 9).cells) (rs2 := (rmK 9).slots) C iX10_move_65 lm_X10_380 yc_X10_no yv_X10_no c_X10_no (q0 := 0) rfl rfl rfl [] [] rfl rfl (rmK_le (by omega) (by decide)) (Nat.le_of_ble_eq_true rfl) rfl rfl ?_
            rintro _ _ ⟨rfl, rfl⟩
            refine J_st (.int 0 :: []) rfl ?_
            refine J_ws (wMd Z mo pl 3 sz ea tk dp lr dy ca kn tp kd fr me va wo pc ht fs la kh kf kl sh dk sk ++ wPl Z pl (nI N) ls mn hn ha hh dz wh bg en od wi al) rfl ?_
            exact J_iret C E iX10_move_68 (Or.inr (Or.inr (Or.inl ⟨i, h_i, rfl, h26, ⟨k, hk, hs50, h60⟩, rfl, rfl⟩)))
    · refine J_aload_n C iX10_move_29 rfl rfl ?_
      refine J_iconst 2 C iX10_move_30 rfl ?_
      refine J_cVb (As := [.int 2]) (st := []) (rc2 := (rmK 9).cells) (rs2 := (rmK 9).slots) C iX10_move_31 lm_X10_380 yc_X10_no yv_X10_no c_X10_no (q0 := 0) rfl rfl rfl [] [] rfl rfl (rmK_le (by omega) (by decide)) (Nat.le_of_ble_eq_true rfl) rfl rfl ?_
      rintro _ _ ⟨rfl, rfl⟩
      refine J_st (.int 0 :: []) rfl ?_
      refine J_ws (wMd Z mo pl 2 sz ea tk dp lr dy ca kn tp kd fr me va wo pc ht fs la kh kf kl sh dk sk ++ wPl Z pl (nI N) ls mn hn ha hh dz wh bg en od wi al) rfl ?_
      exact J_iret C E iX10_move_34 (Or.inr (Or.inl ⟨⟨i, h_i, rfl⟩, h26, rfl, rfl⟩))
  · refine J_st (.int (b2i false) :: []) rfl ?_
    refine J_ws (wMd Z mo pl 0 sz ea tk dp lr dy ca kn tp kd fr me va wo pc ht fs la kh kf kl sh dk sk ++ wPl Z pl (nI N) ls mn hn ha hh dz wh bg en od wi al) (by simp only [List.append_assoc, List.append_nil, List.nil_append]) ?_
    refine J_ifneb 19 C iX10_move_10 rfl (fun h10 => absurd (h10.symm.trans rfl) (by decide)) (fun h10 => ?_)
    refine J_aload_n C iX10_move_13 rfl rfl ?_
    refine J_iconst 1 C iX10_move_14 rfl ?_
    refine J_cVb (As := [.int 1]) (st := []) (rc2 := (rmK 9).cells) (rs2 := (rmK 9).slots) C iX10_move_15 lm_X10_380 yc_X10_no yv_X10_no c_X10_no (q0 := 0) rfl rfl rfl [] [] rfl rfl (rmK_le (by omega) (by decide)) (Nat.le_of_ble_eq_true rfl) rfl rfl ?_
    rintro _ _ ⟨rfl, rfl⟩
    refine J_st (.int 0 :: []) rfl ?_
    refine J_ws (wMd Z mo pl 1 sz ea tk dp lr dy ca kn tp kd fr me va wo pc ht fs la kh kf kl sh dk sk ++ wPl Z pl (nI N) ls mn hn ha hh dz wh bg en od wi al) rfl ?_
    exact J_iret C E iX10_move_18 (Or.inl ⟨no_q, rfl, rfl⟩)

