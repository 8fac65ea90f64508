set_option maxRecDepth 100000 in
set_option maxHeartbeats 4000000 in
theorem c_X10_thrown {Z : GZ} {l : Launch} {mo pl : Nat → Nat} {N : Nat} {th sz ea tk dp lr dy ca ls mn : Int32} {kn : Bool} {hn va : Nat → Int64} {ha hh dz wh bg en od wi al tp kd fr me wo pc ht fs la kh kf kl sh dk sk : Nat → Int32}   : Ct Z l yX10_thrown cX10_thrown 1 (some .int) (rmK 0) [.ref (mo 0)] (wMd Z mo pl th sz ea tk dp lr dy ca kn tp kd fr me va wo pc ht fs la kh kf kl sh dk sk ++ wPl Z pl (nI N) ls mn hn ha hh dz wh bg en od wi al) (fun v w => v = some (.int (th)) ∧ w = (wMd Z mo pl th sz ea tk dp lr dy ca kn tp kd fr me va wo pc ht fs la kh kf kl sh dk sk ++ wPl Z pl (nI N) ls mn hn ha hh dz wh bg en od wi al)) := by
  refine Ct.ofJ (own := RX10) (nm := "thrown") (lv0 := [(0, .ref (mo 0))]) (by decide) rfl rfl (Nat.le_of_ble_eq_true rfl) rfl (fun X hXl C E => ?_)
  subst hXl
  refine J_aload_n C iX10_thrown_0 rfl rfl ?_
  refine J_get (.int th) 0 C iX10_thrown_1 gf_X10_70 rfl rfl ?_
  exact J_iret C E iX10_thrown_4 ⟨rfl, rfl⟩

set_option maxRecDepth 100000 in
set_option maxHeartbeats 4000000 in
theorem c_X10_no {Z : GZ} {l : Launch} {mo pl : Nat → Nat} {N : Nat} {th sz ea tk dp lr dy ca ls mn : Int32} {kn : Bool} {hn va : Nat → Int64} {ha hh dz wh bg en od wi al tp kd fr me wo pc ht fs la kh kf kl sh dk sk : Nat → Int32} {q : Int32}  : Ct Z l yX10_no cX10_no 2 (some .int) (rmK 0) [.ref (mo 0), .int q] (wMd Z mo pl th sz ea tk dp lr dy ca kn tp kd fr me va wo pc ht fs la kh kf kl sh dk sk ++ wPl Z pl (nI N) ls mn hn ha hh dz wh bg en od wi al) (fun v w => v = some (.int 0) ∧ w = (wMd Z mo pl q sz ea tk dp lr dy ca kn tp kd fr me va wo pc ht fs la kh kf kl sh dk sk ++ wPl Z pl (nI N) ls mn hn ha hh dz wh bg en od wi al)) := by
  refine Ct.ofJ (own := RX10) (nm := "no") (lv0 := [(0, .ref (mo 0)), (1, .int q)]) (by decide) rfl rfl (Nat.le_of_ble_eq_true rfl) rfl (fun X hXl C E => ?_)
  subst hXl
  refine J_aload_n C iX10_no_0 rfl rfl ?_
  refine J_iload_n C iX10_no_1 rfl rfl ?_
  refine J_put (wMd Z mo pl q sz ea tk dp lr dy ca kn tp kd fr me va wo pc ht fs la kh kf kl sh dk sk ++ wPl Z pl (nI N) ls mn hn ha hh dz wh bg en od wi al) 0 C iX10_no_2 pf_X10_70 rfl rfl rfl (Nat.le_of_ble_eq_true rfl) rfl ?_
  refine J_iconst 0 C iX10_no_5 rfl ?_
  exact J_iret C E iX10_no_6 ⟨rfl, rfl⟩

set_option maxRecDepth 100000 in
set_option maxHeartbeats 4000000 in
theorem c_X10_isNot {Z : GZ} {l : Launch} {mo pl : Nat → Nat} {N : Nat} {th sz ea tk dp lr dy ca ls mn : Int32} {kn : Bool} {hn va : Nat → Int64} {ha hh dz wh bg en od wi al tp kd fr me wo pc ht fs la kh kf kl sh dk sk : Nat → Int32} {q : Int32}  : Ct Z l yX10_isNot cX10_isNot 2 (some .boolean) (rmK 0) [.ref (mo 0), .int q] (wMd Z mo pl th sz ea tk dp lr dy ca kn tp kd fr me va wo pc ht fs la kh kf kl sh dk sk ++ wPl Z pl (nI N) ls mn hn ha hh dz wh bg en od wi al) (fun v w => v = some (.int (b2i false)) ∧ w = (wMd Z mo pl q sz ea tk dp lr dy ca kn tp kd fr me va wo pc ht fs la kh kf kl sh dk sk ++ wPl Z pl (nI N) ls mn hn ha hh dz wh bg en od wi al)) := by
  refine Ct.ofJ (own := RX10) (nm := "isNot") (lv0 := [(0, .ref (mo 0)), (1, .int q)]) (by decide) rfl rfl (Nat.le_of_ble_eq_true rfl) rfl (fun X hXl C E => ?_)
  subst hXl
  refine J_aload_n C iX10_isNot_0 rfl rfl ?_
  refine J_iload_n C iX10_isNot_1 rfl rfl ?_
  refine J_put (wMd Z mo pl q sz ea tk dp lr dy ca kn tp kd fr me va wo pc ht fs la kh kf kl sh dk sk ++ wPl Z pl (nI N) ls mn hn ha hh dz wh bg en od wi al) 0 C iX10_isNot_2 pf_X10_70 rfl rfl rfl (Nat.le_of_ble_eq_true rfl) rfl ?_
  refine J_iconst 0 C iX10_isNot_5 rfl ?_
  exact J_zret C E iX10_isNot_6 rfl ⟨rfl, rfl⟩

set_option maxRecDepth 100000 in
set_option maxHeartbeats 4000000 in
theorem c_X10_ok {Z : GZ} {l : Launch} {mo pl : Nat → Nat} {N : Nat} {th sz ea tk dp lr dy ca ls mn : Int32} {kn : Bool} {hn va : Nat → Int64} {ha hh dz wh bg en od wi al tp kd fr me wo pc ht fs la kh kf kl sh dk sk : Nat → Int32} {q : Int32}  : Ct Z l yX10_ok cX10_ok 2 (some .int) (rmK 0) [.ref (mo 0), .int q] (wMd Z mo pl th sz ea tk dp lr dy ca kn tp kd fr me va wo pc ht fs la kh kf kl sh dk sk ++ wPl Z pl (nI N) ls mn hn ha hh dz wh bg en od wi al) (fun v w => v = some (.int q) ∧ w = (wMd Z mo pl 0 sz ea tk dp lr dy ca kn tp kd fr me va wo pc ht fs la kh kf kl sh dk sk ++ wPl Z pl (nI N) ls mn hn ha hh dz wh bg en od wi al)) := by
  refine Ct.ofJ (own := RX10) (nm := "ok") (lv0 := [(0, .ref (mo 0)), (1, .int q)]) (by decide) rfl rfl (Nat.le_of_ble_eq_true rfl) rfl (fun X hXl C E => ?_)
  subst hXl
  refine J_aload_n C iX10_ok_0 rfl rfl ?_
  refine J_iconst 0 C iX10_ok_1 rfl ?_
  refine J_put (wMd Z mo pl 0 sz ea tk dp lr dy ca kn tp kd fr me va wo pc ht fs la kh kf kl sh dk sk ++ wPl Z pl (nI N) ls mn hn ha hh dz wh bg en od wi al) 0 C iX10_ok_2 pf_X10_70 rfl rfl rfl (Nat.le_of_ble_eq_true rfl) rfl ?_
  refine J_iload_n C iX10_ok_5 rfl rfl ?_
  exact J_iret C E iX10_ok_6 ⟨rfl, rfl⟩

set_option maxRecDepth 100000 in
set_option maxHeartbeats 4000000 in
theorem c_X10_isIn {Z : GZ} {l : Launch} {q a b : Int32}  : Ct Z l yX10_isIn cX10_isIn 3 (some .boolean) (rmK 0) [.int q, .int a, .int b] [] (fun v w => v = some (.int (b2i (inX q a b))) ∧ w = []) := by
  refine Ct.ofJ (own := RX10) (nm := "isIn") (lv0 := [(0, .int q), (1, .int a), (2, .int b)]) (by decide) rfl rfl (Nat.le_of_ble_eq_true rfl) rfl (fun X hXl C E => ?_)
  subst hXl
  refine J_iload_n C iX10_isIn_0 rfl rfl ?_
  refine J_iload_n C iX10_isIn_1 rfl rfl ?_
  refine J_icmplt 14 C iX10_isIn_2 rfl (fun h2 => ?_) (fun h2 => ?_)
  · refine J_iconst 0 C iX10_isIn_14 rfl ?_
    exact J_zret C E iX10_isIn_15 rfl ⟨by simp [inX, h2, b2i], rfl⟩
  · refine J_iload_n C iX10_isIn_5 rfl rfl ?_
    refine J_iload_n C iX10_isIn_6 rfl rfl ?_
    refine J_icmpgt 14 C iX10_isIn_7 rfl (fun h7 => ?_) (fun h7 => ?_)
    · refine J_iconst 0 C iX10_isIn_14 rfl ?_
      exact J_zret C E iX10_isIn_15 rfl ⟨by simp [inX, h2, h7, b2i], rfl⟩
    · refine J_iconst 1 C iX10_isIn_10 rfl ?_
      refine J_goto 15 C iX10_isIn_11 rfl ?_
      exact J_zret C E iX10_isIn_15 rfl ⟨by simp [inX, h2, h7, b2i], rfl⟩

set_option maxRecDepth 100000 in
set_option maxHeartbeats 4000000 in
theorem c_X10_one {Z : GZ} {l : Launch} {b : Bool}  : Ct Z l yX10_one cX10_one 1 (some .int) (rmK 0) [.int (b2i b)] [] (fun v w => v = some (.int (b2i b)) ∧ w = []) := by
  refine Ct.ofJ (own := RX10) (nm := "one") (lv0 := [(0, .int (b2i b))]) (by decide) rfl rfl (Nat.le_of_ble_eq_true rfl) rfl (fun X hXl C E => ?_)
  subst hXl
  refine J_iload_n C iX10_one_0 rfl rfl ?_
  refine J_ifeqb 8 C iX10_one_1 rfl (fun h1 => ?_) (fun h1 => ?_)
  · refine J_iconst 0 C iX10_one_8 rfl ?_
    exact J_iret C E iX10_one_9 ⟨by rw [h1]; rfl, rfl⟩
  · refine J_iconst 1 C iX10_one_4 rfl ?_
    refine J_goto 9 C iX10_one_5 rfl ?_
    exact J_iret C E iX10_one_9 ⟨by rw [h1]; rfl, rfl⟩

set_option maxRecDepth 100000 in
set_option maxHeartbeats 4000000 in
theorem c_X10_isHouse {Z : GZ} {l : Launch} {mo pl : Nat → Nat} {N : Nat} {th sz ea tk dp lr dy ca ls mn : Int32} {kn : Bool} {hn va : Nat → Int64} {ha hh dz wh bg en od wi al tp kd fr me wo pc ht fs la kh kf kl sh dk sk : Nat → Int32} {q : Int32}  : Ct Z l yX10_isHouse cX10_isHouse 2 (some .boolean) (rmK 1) [.ref (mo 0), .int q] (wMd Z mo pl th sz ea tk dp lr dy ca kn tp kd fr me va wo pc ht fs la kh kf kl sh dk sk ++ wPl Z pl (nI N) ls mn hn ha hh dz wh bg en od wi al) (fun v w => v = some (.int (b2i (inX q 0 (nI N - 1)))) ∧ w = (wMd Z mo pl th sz ea tk dp lr dy ca kn tp kd fr me va wo pc ht fs la kh kf kl sh dk sk ++ wPl Z pl (nI N) ls mn hn ha hh dz wh bg en od wi al)) := by
  refine Ct.ofJ (own := RX10) (nm := "isHouse") (lv0 := [(0, .ref (mo 0)), (1, .int q)]) (by decide) rfl rfl (Nat.le_of_ble_eq_true rfl) rfl (fun X hXl C E => ?_)
  subst hXl
  refine J_iload_n C iX10_isHouse_0 rfl rfl ?_
  refine J_iconst 0 C iX10_isHouse_1 rfl ?_
  refine J_aload_n C iX10_isHouse_2 rfl rfl ?_
  refine J_get (.ref (pl 0)) 0 C iX10_isHouse_3 gf_X10_20 rfl rfl ?_
  refine J_get (.int (nI N)) 17 C iX10_isHouse_6 gf_X10_73 rfl rfl ?_
  refine J_iconst 1 C iX10_isHouse_9 rfl ?_
  refine J_isub C iX10_isHouse_10 ?_
  refine J_cSp (As := [.int q, .int 0, .int ((nI N) - 1)]) (st := []) C iX10_isHouse_11 lm_X10_76 yc_X10_isIn ys_X10_isIn (c_X10_isIn (q := q) (a := 0) (b := (nI N) - 1)) rfl (rmK_le (by omega) (by decide)) (Nat.le_of_ble_eq_true rfl) ⟨rfl, rfl⟩ ?_
  rintro _ rfl
  refine J_st (.int (b2i (inX q 0 ((nI N) - 1))) :: []) rfl ?_
  exact J_zret C E iX10_isHouse_14 nb_b2i ⟨rfl, rfl⟩

set_option maxRecDepth 100000 in
set_option maxHeartbeats 4000000 in
theorem c_X10_isHour {Z : GZ} {l : Launch} {q : Int32}  : Ct Z l yX10_isHour cX10_isHour 1 (some .boolean) (rmK 1) [.int q] [] (fun v w => v = some (.int (b2i (inX q 0 23))) ∧ w = []) := by
  refine Ct.ofJ (own := RX10) (nm := "isHour") (lv0 := [(0, .int q)]) (by decide) rfl rfl (Nat.le_of_ble_eq_true rfl) rfl (fun X hXl C E => ?_)
  subst hXl
  refine J_iload_n C iX10_isHour_0 rfl rfl ?_
  refine J_iconst 0 C iX10_isHour_1 rfl ?_
  refine J_bipush 23 C iX10_isHour_2 rfl ?_
  refine J_cSp (As := [.int q, .int 0, .int 23]) (st := []) C iX10_isHour_4 lm_X10_76 yc_X10_isIn ys_X10_isIn (c_X10_isIn (q := q) (a := 0) (b := 23)) rfl (rmK_le (by omega) (by decide)) (Nat.le_of_ble_eq_true rfl) ⟨rfl, rfl⟩ ?_
  rintro _ rfl
  refine J_st (.int (b2i (inX q 0 23)) :: []) rfl ?_
  exact J_zret C E iX10_isHour_7 nb_b2i ⟨rfl, rfl⟩

set_option maxRecDepth 100000 in
set_option maxHeartbeats 4000000 in
theorem c_X10_tall {Z : GZ} {l : Launch} {mo pl : Nat → Nat} {N : Nat} {th sz ea tk dp lr dy ca ls mn : Int32} {kn : Bool} {hn va : Nat → Int64} {ha hh dz wh bg en od wi al tp kd fr me wo pc ht fs la kh kf kl sh dk sk : Nat → Int32} {i : Nat} {q : Int32} (hi : i < 12)  : Ct Z l yX10_tall cX10_tall 3 (some .int) (rmK 1) [.ref (mo 0), .int (nI i), .int q] (wMd Z mo pl th sz ea tk dp lr dy ca kn tp kd fr me va wo pc ht fs la kh kf kl sh dk sk ++ wPl Z pl (nI N) ls mn hn ha hh dz wh bg en od wi al) (fun v w => v = some (.int (tlM ht fs la i q)) ∧ w = (wMd Z mo pl th sz ea tk dp lr dy ca kn tp kd fr me va wo pc ht fs la kh kf kl sh dk sk ++ wPl Z pl (nI N) ls mn hn ha hh dz wh bg en od wi al)) := by
  refine Ct.ofJ (own := RX10) (nm := "tall") (lv0 := [(0, .ref (mo 0)), (1, .int (nI i)), (2, .int q)]) (by decide) rfl rfl (Nat.le_of_ble_eq_true rfl) rfl (fun X hXl C E => ?_)
  subst hXl
  refine J_aload_n C iX10_tall_0 rfl rfl ?_
  refine J_get (.ref (mo 9)) 0 C iX10_tall_1 gf_X10_46 rfl rfl ?_
  refine J_iload_n C iX10_tall_4 rfl rfl ?_
  refine J_iald 9 C iX10_tall_5 rfl (vp_in_nI (n := i) (by omega) (by decide)) ?_
  rw [nI_clamp (n := i) (by omega)]
  refine J_iconst (-1) C iX10_tall_6 rfl ?_
  refine J_icmpeq 33 C iX10_tall_7 rfl (fun h7 => ?_) (fun h7 => ?_)
  · refine J_aload_n C iX10_tall_33 rfl rfl ?_
    refine J_get (.ref (mo 8)) 0 C iX10_tall_34 gf_X10_43 rfl rfl ?_
    refine J_iload_n C iX10_tall_37 rfl rfl ?_
    refine J_iald 8 C iX10_tall_38 rfl (vp_in_nI (n := i) (by omega) (by decide)) ?_
    rw [nI_clamp (n := i) (by omega)]
    exact J_iret C E iX10_tall_39 ⟨by rw [tlM, if_pos h7], rfl⟩
  · refine J_iload_n C iX10_tall_10 rfl rfl ?_
    refine J_aload_n C iX10_tall_11 rfl rfl ?_
    refine J_get (.ref (mo 9)) 0 C iX10_tall_12 gf_X10_46 rfl rfl ?_
    refine J_iload_n C iX10_tall_15 rfl rfl ?_
    refine J_iald 9 C iX10_tall_16 rfl (vp_in_nI (n := i) (by omega) (by decide)) ?_
    rw [nI_clamp (n := i) (by omega)]
    refine J_aload_n C iX10_tall_17 rfl rfl ?_
    refine J_get (.ref (mo 10)) 0 C iX10_tall_18 gf_X10_49 rfl rfl ?_
    refine J_iload_n C iX10_tall_21 rfl rfl ?_
    refine J_iald 10 C iX10_tall_22 rfl (vp_in_nI (n := i) (by omega) (by decide)) ?_
    rw [nI_clamp (n := i) (by omega)]
    refine J_cSp (As := [.int q, .int (fs i), .int (la i)]) (st := []) C iX10_tall_23 lm_X10_76 yc_X10_isIn ys_X10_isIn (c_X10_isIn (q := q) (a := fs i) (b := la i)) rfl (rmK_le (by omega) (by decide)) (Nat.le_of_ble_eq_true rfl) ⟨rfl, rfl⟩ ?_
    rintro _ rfl
    refine J_st (.int (b2i (inX q (fs i) (la i))) :: []) rfl ?_
    refine J_ifeqb 33 C iX10_tall_26 rfl (fun h26 => ?_) (fun h26 => ?_)
    · refine J_aload_n C iX10_tall_33 rfl rfl ?_
      refine J_get (.ref (mo 8)) 0 C iX10_tall_34 gf_X10_43 rfl rfl ?_
      refine J_iload_n C iX10_tall_37 rfl rfl ?_
      refine J_iald 8 C iX10_tall_38 rfl (vp_in_nI (n := i) (by omega) (by decide)) ?_
      rw [nI_clamp (n := i) (by omega)]
      exact J_iret C E iX10_tall_39 ⟨by rw [tlM, if_neg h7, if_neg (by rw [h26]; exact Bool.false_ne_true)], rfl⟩
    · refine J_iconst 0 C iX10_tall_29 rfl ?_
      refine J_goto 39 C iX10_tall_30 rfl ?_
      exact J_iret C E iX10_tall_39 ⟨by rw [tlM, if_neg h7, if_pos h26], rfl⟩

set_option maxRecDepth 100000 in
set_option maxHeartbeats 4000000 in
theorem c_X10_steps {Z : GZ} {l : Launch} {q : Int32}  : Ct Z l yX10_steps cX10_steps 1 (some .int) (rmK 1) [.int q] [] (fun v w => v = some (.int (spM q)) ∧ w = []) := by
  refine Ct.ofJ (own := RX10) (nm := "steps") (lv0 := [(0, .int q)]) (by decide) rfl rfl (Nat.le_of_ble_eq_true rfl) rfl (fun X hXl C E => ?_)
  subst hXl
  refine J_iload_n C iX10_steps_0 rfl rfl ?_
  refine J_bipush 6 C iX10_steps_1 rfl ?_
  refine J_bipush 18 C iX10_steps_3 rfl ?_
  refine J_cSp (As := [.int q, .int 6, .int 18]) (st := []) C iX10_steps_5 lm_X10_76 yc_X10_isIn ys_X10_isIn (c_X10_isIn (q := q) (a := 6) (b := 18)) rfl (rmK_le (by omega) (by decide)) (Nat.le_of_ble_eq_true rfl) ⟨rfl, rfl⟩ ?_
  rintro _ rfl
  refine J_st (.int (b2i (inX q 6 18)) :: []) rfl ?_
  refine J_ifeqb 21 C iX10_steps_8 rfl (fun h8 => ?_) (fun h8 => ?_)
  · refine J_iconst 0 C iX10_steps_21 rfl ?_
    exact J_iret C E iX10_steps_22 ⟨by rw [spM, if_neg (by rw [h8]; exact Bool.false_ne_true)], rfl⟩
  · refine J_iload_n C iX10_steps_11 rfl rfl ?_
    refine J_bipush 12 C iX10_steps_12 rfl ?_
    refine J_isub C iX10_steps_14 ?_
    refine J_abs C iX10_steps_15 (tsg_in (i := 1617) (by decide +kernel) rfl) ma_abs_1 ma_i ma_abs_2 (by decide) (Nat.le_of_ble_eq_true rfl) ?_
    refine J_goto 22 C iX10_steps_18 rfl ?_
    exact J_iret C E iX10_steps_22 ⟨by rw [spM, if_pos h8]; rfl, rfl⟩

set_option maxRecDepth 100000 in
set_option maxHeartbeats 4000000 in
theorem c_X10_reach {Z : GZ} {l : Launch} {mo pl : Nat → Nat} {N : Nat} {th sz ea tk dp lr dy ca ls mn : Int32} {kn : Bool} {hn va : Nat → Int64} {ha hh dz wh bg en od wi al tp kd fr me wo pc ht fs la kh kf kl sh dk sk : Nat → Int32} {i : Nat} {q : Int32} (hi : i < 12)  : Ct Z l yX10_reach cX10_reach 3 (some .int) (rmK 2) [.ref (mo 0), .int (nI i), .int q] (wMd Z mo pl th sz ea tk dp lr dy ca kn tp kd fr me va wo pc ht fs la kh kf kl sh dk sk ++ wPl Z pl (nI N) ls mn hn ha hh dz wh bg en od wi al) (fun v w => v = some (.int (tlM ht fs la i q * spM q / 2)) ∧ w = (wMd Z mo pl th sz ea tk dp lr dy ca kn tp kd fr me va wo pc ht fs la kh kf kl sh dk sk ++ wPl Z pl (nI N) ls mn hn ha hh dz wh bg en od wi al)) := by
  refine Ct.ofJ (own := RX10) (nm := "reach") (lv0 := [(0, .ref (mo 0)), (1, .int (nI i)), (2, .int q)]) (by decide) rfl rfl (Nat.le_of_ble_eq_true rfl) rfl (fun X hXl C E => ?_)
  subst hXl
  refine J_aload_n C iX10_reach_0 rfl rfl ?_
  refine J_iload_n C iX10_reach_1 rfl rfl ?_
  refine J_iload_n C iX10_reach_2 rfl rfl ?_
  refine J_cVb (As := [.int (nI i), .int q]) (st := []) (rc2 := (rmK 2).cells) (rs2 := (rmK 2).slots) C iX10_reach_3 lm_X10_86 yc_X10_tall yv_X10_tall (c_X10_tall (i := i) (by omega)) (q0 := 0) rfl rfl rfl [] [] rfl rfl (rmK_le (by omega) (by decide)) (Nat.le_of_ble_eq_true rfl) rfl rfl ?_
  rintro _ _ ⟨rfl, rfl⟩
  refine J_st (.int (tlM ht fs la i q) :: []) rfl ?_
  refine J_ws (wMd Z mo pl th sz ea tk dp lr dy ca kn tp kd fr me va wo pc ht fs la kh kf kl sh dk sk ++ wPl Z pl (nI N) ls mn hn ha hh dz wh bg en od wi al) rfl ?_
  refine J_iload_n C iX10_reach_6 rfl rfl ?_
  refine J_cSp (As := [.int q]) (st := .int (tlM ht fs la i q) :: []) C iX10_reach_7 lm_X10_90 yc_X10_steps ys_X10_steps (c_X10_steps (q := q)) rfl (rmK_le (by omega) (by decide)) (Nat.le_of_ble_eq_true rfl) ⟨rfl, rfl⟩ ?_
  rintro _ rfl
  refine J_st (.int (spM q) :: .int (tlM ht fs la i q) :: []) rfl ?_
  refine J_imul C iX10_reach_10 ?_
  refine J_iconst 2 C iX10_reach_11 rfl ?_
  refine J_idiv C iX10_reach_12 (by decide) ?_
  exact J_iret C E iX10_reach_13 ⟨rfl, rfl⟩

