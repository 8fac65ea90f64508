set_option maxRecDepth 100000 in
set_option maxHeartbeats 4000000 in
theorem c_X10_lostBy {Z : GZ} {l : Launch} {mo pl : Nat → Nat} {N : Nat} {th sz ea tk dp lr dy ca ls mn : Int32} {kn : Bool} {hn va : Nat → Int64} {ha hh dz wh bg en od wi al tp kd fr me wo pc ht fs la kh kf kl sh dk sk : Nat → Int32} {i : Nat} (hN : N ≤ 12) (ok : kn = true → LkOk N pc ht fs la sh dk) (hi : i < N)  : Ct Z l yX10_lostBy cX10_lostBy 2 (some .int) (rmK 5) [.ref (mo 0), .int (nI i)] (wMd Z mo pl th sz ea tk dp lr dy ca kn tp kd fr me va wo pc ht fs la kh kf kl sh dk sk ++ wPl Z pl (nI N) ls mn hn ha hh dz wh bg en od wi al) (fun v w => ∃ sh2 dk2, v = some (.int (lsM N pc ht fs la i)) ∧ w = (wMd Z mo pl th sz ea tk dp lr dy ca true tp kd fr me va wo pc ht fs la kh kf kl sh2 dk2 sk ++ wPl Z pl (nI N) ls mn hn ha hh dz wh bg en od wi al) ∧ LkOk N pc ht fs la sh2 dk2) := by
  refine Ct.ofJ (own := RX10) (nm := "lostBy") (lv0 := [(0, .ref (mo 0)), (1, .int (nI i))]) (by decide) rfl rfl (Nat.le_of_ble_eq_true rfl) rfl (fun X hXl C E => ?_)
  subst hXl
  refine J_aload_n C iX10_lostBy_0 rfl rfl ?_
  refine J_cVb (As := []) (st := []) (rc2 := (rmK 5).cells) (rs2 := (rmK 5).slots) C iX10_lostBy_1 lm_X10_107 yc_X10_look yv_X10_look (c_X10_look hN ok) (q0 := 0) rfl rfl rfl [] [] rfl rfl (rmK_le (by omega) (by decide)) (Nat.le_of_ble_eq_true rfl) rfl rfl ?_
  rintro _ _ ⟨sh_1, dk_1, rfl, rfl, okk1⟩
  refine J_st ([]) rfl ?_
  refine J_ws (wMd Z mo pl th sz ea tk dp lr dy ca true tp kd fr me va wo pc ht fs la kh kf kl sh_1 dk_1 sk ++ wPl Z pl (nI N) ls mn hn ha hh dz wh bg en od wi al) rfl ?_
  refine J_aload_n C iX10_lostBy_4 rfl rfl ?_
  refine J_get (.ref (mo 15)) 0 C iX10_lostBy_5 gf_X10_64 rfl rfl ?_
  refine J_iload_n C iX10_lostBy_8 rfl rfl ?_
  refine J_iald 15 C iX10_lostBy_9 rfl (vp_in_nI (n := i) (by omega) (by decide)) ?_
  rw [nI_clamp (n := i) (by omega)]
  refine J_cSp (As := [.int (dk_1 i)]) (st := []) C iX10_lostBy_10 lm_X10_110 yc_J6_bitCount_0f7a4 ys_J6_bitCount_0f7a4 c_J6_bitCount_0f7a4 rfl ⟨by decide, by decide⟩ (Nat.le_of_ble_eq_true rfl) ⟨rfl, rfl⟩ ?_
  rintro _ rfl
  refine J_st (.int (bitC (dk_1 i)) :: []) rfl ?_
  exact J_iret C E iX10_lostBy_13 ⟨sh_1, dk_1, by rw [okk1.2 i hi]; rfl, rfl, okk1⟩

set_option maxRecDepth 100000 in
set_option maxHeartbeats 4000000 in
theorem c_X10_lostTo {Z : GZ} {l : Launch} {mo pl : Nat → Nat} {N : Nat} {th sz ea tk dp lr dy ca ls mn : Int32} {kn : Bool} {hn va : Nat → Int64} {ha hh dz wh bg en od wi al tp kd fr me wo pc ht fs la kh kf kl sh dk sk : Nat → Int32} {i j : Nat} (hN : N ≤ 12) (ok : kn = true → LkOk N pc ht fs la sh dk) (hi : i < N) (hj : j < N)  : Ct Z l yX10_lostTo cX10_lostTo 3 (some .int) (rmK 5) [.ref (mo 0), .int (nI i), .int (nI j)] (wMd Z mo pl th sz ea tk dp lr dy ca kn tp kd fr me va wo pc ht fs la kh kf kl sh dk sk ++ wPl Z pl (nI N) ls mn hn ha hh dz wh bg en od wi al) (fun v w => ∃ sh2 dk2, v = some (.int (bitC (lkM pc ht fs la i j))) ∧ w = (wMd Z mo pl th sz ea tk dp lr dy ca true tp kd fr me va wo pc ht fs la kh kf kl sh2 dk2 sk ++ wPl Z pl (nI N) ls mn hn ha hh dz wh bg en od wi al) ∧ LkOk N pc ht fs la sh2 dk2) := by
  refine Ct.ofJ (own := RX10) (nm := "lostTo") (lv0 := [(0, .ref (mo 0)), (1, .int (nI i)), (2, .int (nI j))]) (by decide) rfl rfl (Nat.le_of_ble_eq_true rfl) rfl (fun X hXl C E => ?_)
  subst hXl
  refine J_aload_n C iX10_lostTo_0 rfl rfl ?_
  refine J_cVb (As := []) (st := []) (rc2 := (rmK 5).cells) (rs2 := (rmK 5).slots) C iX10_lostTo_1 lm_X10_107 yc_X10_look yv_X10_look (c_X10_look hN ok) (q0 := 0) rfl rfl rfl [] [] rfl rfl (rmK_le (by omega) (by decide)) (Nat.le_of_ble_eq_true rfl) rfl rfl ?_
  rintro _ _ ⟨sh_1, dk_1, rfl, rfl, okk1⟩
  refine J_st ([]) rfl ?_
  refine J_ws (wMd Z mo pl th sz ea tk dp lr dy ca true tp kd fr me va wo pc ht fs la kh kf kl sh_1 dk_1 sk ++ wPl Z pl (nI N) ls mn hn ha hh dz wh bg en od wi al) rfl ?_
  refine J_aload_n C iX10_lostTo_4 rfl rfl ?_
  refine J_get (.ref (mo 14)) 0 C iX10_lostTo_5 gf_X10_61 rfl rfl ?_
  refine J_bipush 12 C iX10_lostTo_8 rfl ?_
  refine J_iload_n C iX10_lostTo_10 rfl rfl ?_
  refine J_imul C iX10_lostTo_11 ?_
  refine J_iload_n C iX10_lostTo_12 rfl rfl ?_
  refine J_iadd C iX10_lostTo_13 ?_
  refine J_iald 14 C iX10_lostTo_14 rfl (ji_in (by omega) (by omega)) ?_
  refine J_cSp (As := [.int (sh_1 ((12 * (nI i)) + (nI j)).toNatClampNeg)]) (st := []) C iX10_lostTo_15 lm_X10_110 yc_J6_bitCount_0f7a4 ys_J6_bitCount_0f7a4 c_J6_bitCount_0f7a4 rfl ⟨by decide, by decide⟩ (Nat.le_of_ble_eq_true rfl) ⟨rfl, rfl⟩ ?_
  rintro _ rfl
  refine J_st (.int (bitC (sh_1 ((12 * (nI i)) + (nI j)).toNatClampNeg)) :: []) rfl ?_
  exact J_iret C E iX10_lostTo_18 ⟨sh_1, dk_1, by rw [ji_nI (by omega) (by omega), okk1.1 i j hi hj], rfl, okk1⟩

