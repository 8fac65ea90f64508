set_option maxRecDepth 100000 in
set_option maxHeartbeats 4000000 in
theorem c_X10_inTheDark {Z : GZ} {l : Launch} {mo pl : Nat → Nat} {N : Nat} {th sz ea tk dp lr dy ca ls mn : Int32} {kn : Bool} {hn va : Nat → Int64} {ha hh dz wh bg en od wi al tp kd fr me wo pc ht fs la kh kf kl sh dk sk : Nat → Int32} {q : Int32} (hN : N ≤ 12) (ok : kn = true → LkOk N pc ht fs la sh dk)  : Ct Z l yX10_inTheDark cX10_inTheDark 4 (some .int) (rmK 5) [.ref (mo 0), .int q] (wMd Z mo pl th sz ea tk dp lr dy ca kn tp kd fr me va wo pc ht fs la kh kf kl sh dk sk ++ wPl Z pl (nI N) ls mn hn ha hh dz wh bg en od wi al) (fun v w => ∃ sh2 dk2, v = some (.int (inM (dkM N pc ht fs la) q N)) ∧ w = (wMd Z mo pl th sz ea tk dp lr dy ca true tp kd fr me va wo pc ht fs la kh kf kl sh2 dk2 sk ++ wPl Z pl (nI N) ls mn hn ha hh dz wh bg en od wi al) ∧ LkOk N pc ht fs la sh2 dk2) := by
  refine Ct.ofJ (own := RX10) (nm := "inTheDark") (lv0 := [(0, .ref (mo 0)), (1, .int q)]) (by decide) rfl rfl (Nat.le_of_ble_eq_true rfl) rfl (fun X hXl C E => ?_)
  subst hXl
  refine J_aload_n C iX10_inTheDark_0 rfl rfl ?_
  refine J_cVb (As := []) (st := []) (rc2 := (rmK 5).cells) (rs2 := (rmK 5).slots) C iX10_inTheDark_1 lm_X10_107 yc_X10_look yv_X10_look (c_X10_look hN ok) (q0 := 0) rfl rfl rfl [] [] rfl rfl (rmK_le (by omega) (by decide)) (Nat.le_of_ble_eq_true rfl) rfl rfl ?_
  rintro _ _ ⟨sh_1, dk_1, rfl, rfl, okk1⟩
  refine J_st ([]) rfl ?_
  refine J_ws (wMd Z mo pl th sz ea tk dp lr dy ca true tp kd fr me va wo pc ht fs la kh kf kl sh_1 dk_1 sk ++ wPl Z pl (nI N) ls mn hn ha hh dz wh bg en od wi al) rfl ?_
  refine J_iconst 0 C iX10_inTheDark_4 rfl ?_
  refine J_istore_n [(2, .int 0), (0, .ref (mo 0)), (1, .int q)] C iX10_inTheDark_5 rfl (by decide) rfl ?_
  refine J_iconst 0 C iX10_inTheDark_6 rfl ?_
  refine J_istore_n [(3, .int 0), (2, .int 0), (0, .ref (mo 0)), (1, .int q)] C iX10_inTheDark_7 rfl (by decide) rfl ?_
  refine J_lvm [(2, .int 0), (3, .int 0), (1, .int q), (0, .ref (mo 0))] rfl ?_
  refine J_for (fun k => [(2, .int (sumN (fun a => (dk_1 a >>> (q &&& 31)) &&& 1) k)), (3, .int (nI k)), (1, .int q), (0, .ref (mo 0))]) (fun k => (wMd Z mo pl th sz ea tk dp lr dy ca true tp kd fr me va wo pc ht fs la kh kf kl sh_1 dk_1 sk ++ wPl Z pl (nI N) ls mn hn ha hh dz wh bg en od wi al)) N 0 (by omega) ?_ (fun k hk0 hk ih => ?_)
  · refine J_iload_n C iX10_inTheDark_8 rfl rfl ?_
    refine J_aload_n C iX10_inTheDark_9 rfl rfl ?_
    refine J_get (.ref (pl 0)) 0 C iX10_inTheDark_10 gf_X10_20 rfl rfl ?_
    refine J_get (.int (nI N)) 17 C iX10_inTheDark_13 gf_X10_73 rfl rfl ?_
    refine J_icmpge 38 C iX10_inTheDark_16 rfl (fun h16 => ?_) (fun h16 => absurd (nI_le (a := N) (b := N) (by omega) (by omega)) h16)
    refine J_iload_n C iX10_inTheDark_38 rfl rfl ?_
    exact J_iret C E iX10_inTheDark_39 ⟨sh_1, dk_1, by rw [inM]; exact congrArg (fun z => some (Value.int z)) (sumN_cong (fun a ha => by rw [okk1.2 a ha]; rfl)), rfl, okk1⟩
  · refine J_iload_n C iX10_inTheDark_8 rfl rfl ?_
    refine J_aload_n C iX10_inTheDark_9 rfl rfl ?_
    refine J_get (.ref (pl 0)) 0 C iX10_inTheDark_10 gf_X10_20 rfl rfl ?_
    refine J_get (.int (nI N)) 17 C iX10_inTheDark_13 gf_X10_73 rfl rfl ?_
    refine J_icmpge 38 C iX10_inTheDark_16 rfl (fun h16 => absurd h16 (nI_ge (a := k) (b := N) (by omega) (by omega))) (fun h16 => ?_)
    refine J_iload_n C iX10_inTheDark_19 rfl rfl ?_
    refine J_aload_n C iX10_inTheDark_20 rfl rfl ?_
    refine J_get (.ref (mo 15)) 0 C iX10_inTheDark_21 gf_X10_64 rfl rfl ?_
    refine J_iload_n C iX10_inTheDark_24 rfl rfl ?_
    refine J_iald 15 C iX10_inTheDark_25 rfl (vp_in_nI (n := k) (by omega) (by decide)) ?_
    rw [nI_clamp (n := k) (by omega)]
    refine J_iload_n C iX10_inTheDark_26 rfl rfl ?_
    refine J_ishr C iX10_inTheDark_27 ?_
    refine J_iconst 1 C iX10_inTheDark_28 rfl ?_
    refine J_iand C iX10_inTheDark_29 ?_
    refine J_iadd C iX10_inTheDark_30 ?_
    refine J_istore_n [(2, .int ((sumN (fun a => (dk_1 a >>> (q &&& 31)) &&& 1) k) + (((dk_1 k) >>> (q &&& 31)) &&& 1))), (3, .int (nI k)), (1, .int q), (0, .ref (mo 0))] C iX10_inTheDark_31 rfl (by decide) rfl ?_
    refine J_iinc ((nI k) + 1) [(3, .int ((nI k) + 1)), (2, .int ((sumN (fun a => (dk_1 a >>> (q &&& 31)) &&& 1) k) + (((dk_1 k) >>> (q &&& 31)) &&& 1))), (1, .int q), (0, .ref (mo 0))] C iX10_inTheDark_32 rfl rfl (by decide) rfl ?_
    rw [show (nI k) + 1 = nI (k + 1) from nI_add _ _]
    refine J_goto 8 C iX10_inTheDark_35 rfl ?_
    refine J_lvm [(2, .int ((sumN (fun a => (dk_1 a >>> (q &&& 31)) &&& 1) k) + (((dk_1 k) >>> (q &&& 31)) &&& 1))), (3, .int (nI (k + 1))), (1, .int q), (0, .ref (mo 0))] rfl ?_
    exact ih

set_option maxRecDepth 100000 in
set_option maxHeartbeats 4000000 in
theorem c_X10_curfew {Z : GZ} {l : Launch} {mo pl : Nat → Nat} {N : Nat} {th sz ea tk dp lr dy ca ls mn : Int32} {kn : Bool} {hn va : Nat → Int64} {ha hh dz wh bg en od wi al tp kd fr me wo pc ht fs la kh kf kl sh dk sk : Nat → Int32} {i : Nat} {x_ y_ : Int32} (hi : i < 12)  : Ct Z l yX10_curfew cX10_curfew 4 none (rmK 0) [.ref (mo 0), .int (nI i), .int x_, .int y_] (wMd Z mo pl th sz ea tk dp lr dy ca kn tp kd fr me va wo pc ht fs la kh kf kl sh dk sk ++ wPl Z pl (nI N) ls mn hn ha hh dz wh bg en od wi al) (fun v w => v = none ∧ w = (wMd Z mo pl th sz ea tk dp lr dy ca false tp kd fr me va wo pc ht (upd fs i x_) (upd la i y_) kh kf kl sh dk sk ++ wPl Z pl (nI N) ls mn hn ha hh dz wh bg en od wi al)) := by
  refine Ct.ofJ (own := RX10) (nm := "curfew") (lv0 := [(0, .ref (mo 0)), (1, .int (nI i)), (2, .int x_), (3, .int y_)]) (by decide) rfl rfl (Nat.le_of_ble_eq_true rfl) rfl (fun X hXl C E => ?_)
  subst hXl
  refine J_aload_n C iX10_curfew_0 rfl rfl ?_
  refine J_get (.ref (mo 9)) 0 C iX10_curfew_1 gf_X10_46 rfl rfl ?_
  refine J_iload_n C iX10_curfew_4 rfl rfl ?_
  refine J_iload_n C iX10_curfew_5 rfl rfl ?_
  refine J_iast (wMd Z mo pl th sz ea tk dp lr dy ca kn tp kd fr me va wo pc ht (upd fs (nI i).toNatClampNeg x_) la kh kf kl sh dk sk ++ wPl Z pl (nI N) ls mn hn ha hh dz wh bg en od wi al) 9 C iX10_curfew_6 rfl (vp_in_nI (n := i) (by omega) (by decide)) rfl ?_
  rw [nI_clamp (n := i) (by omega)]
  refine J_aload_n C iX10_curfew_7 rfl rfl ?_
  refine J_get (.ref (mo 10)) 0 C iX10_curfew_8 gf_X10_49 rfl rfl ?_
  refine J_iload_n C iX10_curfew_11 rfl rfl ?_
  refine J_iload_n C iX10_curfew_12 rfl rfl ?_
  refine J_iast (wMd Z mo pl th sz ea tk dp lr dy ca kn tp kd fr me va wo pc ht (upd fs i x_) (upd la (nI i).toNatClampNeg y_) kh kf kl sh dk sk ++ wPl Z pl (nI N) ls mn hn ha hh dz wh bg en od wi al) 10 C iX10_curfew_13 rfl (vp_in_nI (n := i) (by omega) (by decide)) rfl ?_
  rw [nI_clamp (n := i) (by omega)]
  refine J_aload_n C iX10_curfew_14 rfl rfl ?_
  refine J_iconst 0 C iX10_curfew_15 rfl ?_
  refine J_put (wMd Z mo pl th sz ea tk dp lr dy ca false tp kd fr me va wo pc ht (upd fs i x_) (upd la i y_) kh kf kl sh dk sk ++ wPl Z pl (nI N) ls mn hn ha hh dz wh bg en od wi al) 0 C iX10_curfew_16 pf_X10_96 rfl rfl rfl (Nat.le_of_ble_eq_true rfl) rfl ?_
  exact J_vret C E iX10_curfew_19 ⟨rfl, rfl⟩

set_option maxRecDepth 100000 in
set_option maxHeartbeats 4000000 in
theorem c_X10_raiseTo {Z : GZ} {l : Launch} {mo pl : Nat → Nat} {N : Nat} {th sz ea tk dp lr dy ca ls mn : Int32} {kn : Bool} {hn va : Nat → Int64} {ha hh dz wh bg en od wi al tp kd fr me wo pc ht fs la kh kf kl sh dk sk : Nat → Int32} {i : Nat} {x_ : Int32} (hi : i < 12)  : Ct Z l yX10_raiseTo cX10_raiseTo 3 none (rmK 0) [.ref (mo 0), .int (nI i), .int x_] (wMd Z mo pl th sz ea tk dp lr dy ca kn tp kd fr me va wo pc ht fs la kh kf kl sh dk sk ++ wPl Z pl (nI N) ls mn hn ha hh dz wh bg en od wi al) (fun v w => v = none ∧ w = (wMd Z mo pl th sz ea tk dp lr dy ca false tp kd fr me va wo pc (upd ht i x_) fs la kh kf kl sh dk sk ++ wPl Z pl (nI N) ls mn hn ha hh dz wh bg en od wi al)) := by
  refine Ct.ofJ (own := RX10) (nm := "raiseTo") (lv0 := [(0, .ref (mo 0)), (1, .int (nI i)), (2, .int x_)]) (by decide) rfl rfl (Nat.le_of_ble_eq_true rfl) rfl (fun X hXl C E => ?_)
  subst hXl
  refine J_aload_n C iX10_raiseTo_0 rfl rfl ?_
  refine J_get (.ref (mo 8)) 0 C iX10_raiseTo_1 gf_X10_43 rfl rfl ?_
  refine J_iload_n C iX10_raiseTo_4 rfl rfl ?_
  refine J_iload_n C iX10_raiseTo_5 rfl rfl ?_
  refine J_iast (wMd Z mo pl th sz ea tk dp lr dy ca kn tp kd fr me va wo pc (upd ht (nI i).toNatClampNeg x_) fs la kh kf kl sh dk sk ++ wPl Z pl (nI N) ls mn hn ha hh dz wh bg en od wi al) 8 C iX10_raiseTo_6 rfl (vp_in_nI (n := i) (by omega) (by decide)) rfl ?_
  rw [nI_clamp (n := i) (by omega)]
  refine J_aload_n C iX10_raiseTo_7 rfl rfl ?_
  refine J_iconst 0 C iX10_raiseTo_8 rfl ?_
  refine J_put (wMd Z mo pl th sz ea tk dp lr dy ca false tp kd fr me va wo pc (upd ht i x_) fs la kh kf kl sh dk sk ++ wPl Z pl (nI N) ls mn hn ha hh dz wh bg en od wi al) 0 C iX10_raiseTo_9 pf_X10_96 rfl rfl rfl (Nat.le_of_ble_eq_true rfl) rfl ?_
  exact J_vret C E iX10_raiseTo_12 ⟨rfl, rfl⟩

