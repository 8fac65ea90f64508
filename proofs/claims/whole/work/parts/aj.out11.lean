set_option maxRecDepth 100000 in
set_option maxHeartbeats 4000000 in
theorem c_X10_lightHouses {Z : GZ} {l : Launch} {mo pl : Nat → Nat} {N : Nat} {th sz ea tk dp lr dy ca ls mn : Int32} {kn : Bool} {hn va : Nat → Int64} {ha hh dz wh bg en od wi al tp kd fr me wo pc ht fs la kh kf kl sh dk sk : Nat → Int32} (hN : N ≤ 12) (ok : kn = true → LkOk N pc ht fs la sh dk)  : Ct Z l yX10_lightHouses cX10_lightHouses 1 (some .int) (rmK 9) [.ref (mo 0)] (wMd Z mo pl th sz ea tk dp lr dy ca kn tp kd fr me va wo pc ht fs la kh kf kl sh dk sk ++ wPl Z pl (nI N) ls mn hn ha hh dz wh bg en od wi al) (fun v w => ∃ kn2 sh2 dk2, (kn2 = true → LkOk N pc ht fs la sh2 dk2) ∧ v = some (.int (sumN (fun a => b2i (decide (lsM N pc ht fs la a = 0))) N)) ∧ w = (wMd Z mo pl 0 sz ea tk dp lr dy ca kn2 tp kd fr me va wo pc ht fs la kh kf kl sh2 dk2 sk ++ wPl Z pl (nI N) ls mn hn ha hh dz wh bg en od wi al)) := by
  refine Ct.ofJ (own := RX10) (nm := "lightHouses") (lv0 := [(0, .ref (mo 0))]) (by decide) rfl rfl (Nat.le_of_ble_eq_true rfl) rfl (fun X hXl C E => ?_)
  subst hXl
  refine J_aload_n C iX10_lightHouses_0 rfl rfl ?_
  refine J_aload_n C iX10_lightHouses_1 rfl rfl ?_
  refine J_cVb (As := []) (st := .ref (mo 0) :: []) (rc2 := (rmK 9).cells) (rs2 := (rmK 9).slots) C iX10_lightHouses_2 lm_X10_392 yc_X10_light yv_X10_light (c_X10_light hN ok) (q0 := 0) rfl rfl rfl [] [] rfl rfl (rmK_le (by omega) (by decide)) (Nat.le_of_ble_eq_true rfl) rfl rfl ?_
  rintro _ _ ⟨kn_1, sh_1, dk_1, rfl, rfl, okk1⟩
  refine J_st (.int (sumN (fun a => b2i (decide (lsM N pc ht fs la a = 0))) N) :: .ref (mo 0) :: []) rfl ?_
  refine J_ws (wMd Z mo pl th sz ea tk dp lr dy ca kn_1 tp kd fr me va wo pc ht fs la kh kf kl sh_1 dk_1 sk ++ wPl Z pl (nI N) ls mn hn ha hh dz wh bg en od wi al) rfl ?_
  refine J_cVb (As := [.int (sumN (fun a => b2i (decide (lsM N pc ht fs la a = 0))) N)]) (st := []) (rc2 := (rmK 9).cells) (rs2 := (rmK 9).slots) C iX10_lightHouses_5 lm_X10_386 yc_X10_ok yv_X10_ok c_X10_ok (q0 := 0) rfl rfl rfl [] [] rfl rfl (rmK_le (by omega) (by decide)) (Nat.le_of_ble_eq_true rfl) rfl rfl ?_
  rintro _ _ ⟨rfl, rfl⟩
  refine J_st (.int (sumN (fun a => b2i (decide (lsM N pc ht fs la a = 0))) N) :: []) rfl ?_
  refine J_ws (wMd Z mo pl 0 sz ea tk dp lr dy ca kn_1 tp kd fr me va wo pc ht fs la kh kf kl sh_1 dk_1 sk ++ wPl Z pl (nI N) ls mn hn ha hh dz wh bg en od wi al) rfl ?_
  exact J_iret C E iX10_lightHouses_8 ⟨kn_1, sh_1, dk_1, okk1, rfl, rfl⟩

set_option maxRecDepth 100000 in
set_option maxHeartbeats 4000000 in
theorem c_X10_meanLost {Z : GZ} {l : Launch} {mo pl : Nat → Nat} {N : Nat} {th sz ea tk dp lr dy ca ls mn : Int32} {kn : Bool} {hn va : Nat → Int64} {ha hh dz wh bg en od wi al tp kd fr me wo pc ht fs la kh kf kl sh dk sk : Nat → Int32} (hN : N ≤ 12) (ok : kn = true → LkOk N pc ht fs la sh dk)  : Ct Z l yX10_meanLost cX10_meanLost 1 (some .double) (rmK 9) [.ref (mo 0)] (wMd Z mo pl th sz ea tk dp lr dy ca kn tp kd fr me va wo pc ht fs la kh kf kl sh dk sk ++ wPl Z pl (nI N) ls mn hn ha hh dz wh bg en od wi al) (fun v w => ∃ kn2 sh2 dk2, v = some (.double (mlX N (alM N pc ht fs la))) ∧ w = (wMd Z mo pl 0 sz ea tk dp lr dy ca kn2 tp kd fr me va wo pc ht fs la kh kf kl sh2 dk2 sk ++ wPl Z pl (nI N) ls mn hn ha hh dz wh bg en od wi al) ∧ (kn2 = true → LkOk N pc ht fs la sh2 dk2)) := by
  refine Ct.ofJ (own := RX10) (nm := "meanLost") (lv0 := [(0, .ref (mo 0))]) (by decide) rfl rfl (Nat.le_of_ble_eq_true rfl) rfl (fun X hXl C E => ?_)
  subst hXl
  refine J_aload_n C iX10_meanLost_0 rfl rfl ?_
  refine J_iconst 0 C iX10_meanLost_1 rfl ?_
  refine J_put (wMd Z mo pl 0 sz ea tk dp lr dy ca kn tp kd fr me va wo pc ht fs la kh kf kl sh dk sk ++ wPl Z pl (nI N) ls mn hn ha hh dz wh bg en od wi al) 0 C iX10_meanLost_2 pf_X10_70 rfl rfl rfl (Nat.le_of_ble_eq_true rfl) rfl ?_
  refine J_aload_n C iX10_meanLost_5 rfl rfl ?_
  refine J_get (.ref (pl 0)) 0 C iX10_meanLost_6 gf_X10_20 rfl rfl ?_
  refine J_get (.int (nI N)) 17 C iX10_meanLost_9 gf_X10_73 rfl rfl ?_
  refine J_ifne 19 C iX10_meanLost_12 rfl (fun h12 => ?_) (fun h12 => ?_)
  · refine J_aload_n C iX10_meanLost_19 rfl rfl ?_
    refine J_cVb (As := []) (st := []) (rc2 := (rmK 9).cells) (rs2 := (rmK 9).slots) C iX10_meanLost_20 lm_X10_389 yc_X10_allLost yv_X10_allLost (c_X10_allLost hN ok) (q0 := 0) rfl rfl rfl [] [] rfl rfl (rmK_le (by omega) (by decide)) (Nat.le_of_ble_eq_true rfl) rfl rfl ?_
    rintro _ _ ⟨kn_1, sh_1, dk_1, rfl, rfl, okk1⟩
    obtain ⟨t9, ht9, hal9⟩ := al_nat (P := pc) (H := ht) (F := fs) (T := la) hN
    rw [hal9]
    refine J_st (.int (nI t9) :: []) rfl ?_
    refine J_ws (wMd Z mo pl 0 sz ea tk dp lr dy ca kn_1 tp kd fr me va wo pc ht fs la kh kf kl sh_1 dk_1 sk ++ wPl Z pl (nI N) ls mn hn ha hh dz wh bg en od wi al) rfl ?_
    refine J_i2d C iX10_meanLost_23 ?_
    refine J_aload_n C iX10_meanLost_24 rfl rfl ?_
    refine J_get (.ref (pl 0)) 0 C iX10_meanLost_25 gf_X10_20 rfl rfl ?_
    refine J_get (.int (nI N)) 17 C iX10_meanLost_28 gf_X10_73 rfl rfl ?_
    refine J_i2d C iX10_meanLost_31 ?_
    refine J_ddiv C iX10_meanLost_32 (dm_ok2 hN h12 (by omega)) ?_
    exact J_dret C E iX10_meanLost_33 ⟨kn_1, sh_1, dk_1, by rw [mlX, if_neg h12], rfl, okk1⟩
  · refine J_dconst0 C iX10_meanLost_15 ?_
    refine J_goto 33 C iX10_meanLost_16 rfl ?_
    exact J_dret C E iX10_meanLost_33 ⟨kn, sh, dk, by rw [mlX, if_pos h12], rfl, ok⟩

set_option maxRecDepth 100000 in
set_option maxHeartbeats 4000000 in
theorem c_X10_digest {Z : GZ} {l : Launch} {mo pl : Nat → Nat} {N : Nat} {th sz ea tk dp lr dy ca ls mn : Int32} {kn : Bool} {hn va : Nat → Int64} {ha hh dz wh bg en od wi al tp kd fr me wo pc ht fs la kh kf kl sh dk sk : Nat → Int32} (hN : N ≤ 12) (ok : kn = true → LkOk N pc ht fs la sh dk)  : Ct Z l yX10_digest cX10_digest 8 (some .long) (rmM 9 1 6) [.ref (mo 0)] (wMd Z mo pl th sz ea tk dp lr dy ca kn tp kd fr me va wo pc ht fs la kh kf kl sh dk sk ++ wPl Z pl (nI N) ls mn hn ha hh dz wh bg en od wi al) (fun v w => ∃ A9 kn2 sh2 dk2, A9 = upd (upd (upd (upd (upd (upd (fun _ => 0) 0 (nI N)) 1 ls) 2 dy) 3 ca) 4 (alM N pc ht fs la)) 5 (sumN (fun a => b2i (decide (lsM N pc ht fs la a = 0))) N) ∧ v = some (.long (dgMR (fun h => inM (dkM N pc ht fs la) h N) (dgMO pc ht fs la (lsM N pc ht fs la) (ctM N pc ht fs la) (fun a b => bitC (lkM pc ht fs la a b)) N (dgF A9 1013 6) N) 13)) ∧ w = (wMd Z mo pl 0 sz ea tk dp lr dy ca kn2 tp kd fr me va wo pc ht fs la kh kf kl sh2 dk2 sk ++ wPl Z pl (nI N) ls mn hn ha hh dz wh bg en od wi al) ∧ (kn2 = true → LkOk N pc ht fs la sh2 dk2)) := by
  refine Ct.ofJ (own := RX10) (nm := "digest") (lv0 := [(0, .ref (mo 0))]) (by decide) rfl rfl (Nat.le_of_ble_eq_true rfl) rfl (fun X hXl C E => ?_)
  subst hXl
  refine J_aload_n C iX10_digest_0 rfl rfl ?_
  refine J_iconst 0 C iX10_digest_1 rfl ?_
  refine J_put (wMd Z mo pl 0 sz ea tk dp lr dy ca kn tp kd fr me va wo pc ht fs la kh kf kl sh dk sk ++ wPl Z pl (nI N) ls mn hn ha hh dz wh bg en od wi al) 0 C iX10_digest_2 pf_X10_70 rfl rfl rfl (Nat.le_of_ble_eq_true rfl) rfl ?_
  refine J_bipush 6 C iX10_digest_5 rfl ?_
  refine J_newI (rc := 0) (rs := 0) 6 C iX10_digest_7 (tsg_in (i := 191) (by decide +kernel) rfl) (by decide) rfl (by decide) (fun q9 => ?_)
  obtain ⟨ar, rfl⟩ : ∃ z : Nat → Nat, q9 = z 0 := ⟨fun _ => q9, rfl⟩
  refine J_ws ((wMd Z mo pl 0 sz ea tk dp lr dy ca kn tp kd fr me va wo pc ht fs la kh kf kl sh dk sk ++ wPl Z pl (nI N) ls mn hn ha hh dz wh bg en od wi al) ++ wA6 Z ar (fun _ => 0)) rfl ?_
  refine J_dup C iX10_digest_9 rfl ?_
  refine J_iconst 0 C iX10_digest_10 rfl ?_
  refine J_aload_n C iX10_digest_11 rfl rfl ?_
  refine J_get (.ref (pl 0)) 0 C iX10_digest_12 gf_X10_20 rfl rfl ?_
  refine J_get (.int (nI N)) 17 C iX10_digest_15 gf_X10_73 rfl rfl ?_
  refine J_iast ((wMd Z mo pl 0 sz ea tk dp lr dy ca kn tp kd fr me va wo pc ht fs la kh kf kl sh dk sk ++ wPl Z pl (nI N) ls mn hn ha hh dz wh bg en od wi al) ++ wA6 Z ar (upd (fun _ => 0) (0 : Int32).toNatClampNeg (nI N))) 28 C iX10_digest_18 rfl (vp_in_nI (n := 0) (by omega) (by decide)) rfl ?_
  rw [show Int32.toNatClampNeg 0 = 0 from rfl]
  refine J_dup C iX10_digest_19 rfl ?_
  refine J_iconst 1 C iX10_digest_20 rfl ?_
  refine J_aload_n C iX10_digest_21 rfl rfl ?_
  refine J_get (.ref (pl 0)) 0 C iX10_digest_22 gf_X10_20 rfl rfl ?_
  refine J_get (.int ls) 17 C iX10_digest_25 gf_X10_179 rfl rfl ?_
  refine J_iast ((wMd Z mo pl 0 sz ea tk dp lr dy ca kn tp kd fr me va wo pc ht fs la kh kf kl sh dk sk ++ wPl Z pl (nI N) ls mn hn ha hh dz wh bg en od wi al) ++ wA6 Z ar (upd (upd (fun _ => 0) 0 (nI N)) (1 : Int32).toNatClampNeg ls)) 28 C iX10_digest_28 rfl (vp_in_nI (n := 1) (by omega) (by decide)) rfl ?_
  rw [show Int32.toNatClampNeg 1 = 1 from rfl]
  refine J_dup C iX10_digest_29 rfl ?_
  refine J_iconst 2 C iX10_digest_30 rfl ?_
  refine J_aload_n C iX10_digest_31 rfl rfl ?_
  refine J_get (.int dy) 0 C iX10_digest_32 gf_X10_127 rfl rfl ?_
  refine J_iast ((wMd Z mo pl 0 sz ea tk dp lr dy ca kn tp kd fr me va wo pc ht fs la kh kf kl sh dk sk ++ wPl Z pl (nI N) ls mn hn ha hh dz wh bg en od wi al) ++ wA6 Z ar (upd (upd (upd (fun _ => 0) 0 (nI N)) 1 ls) (2 : Int32).toNatClampNeg dy)) 28 C iX10_digest_35 rfl (vp_in_nI (n := 2) (by omega) (by decide)) rfl ?_
  rw [show Int32.toNatClampNeg 2 = 2 from rfl]
  refine J_dup C iX10_digest_36 rfl ?_
  refine J_iconst 3 C iX10_digest_37 rfl ?_
  refine J_aload_n C iX10_digest_38 rfl rfl ?_
  refine J_get (.int ca) 0 C iX10_digest_39 gf_X10_130 rfl rfl ?_
  refine J_iast ((wMd Z mo pl 0 sz ea tk dp lr dy ca kn tp kd fr me va wo pc ht fs la kh kf kl sh dk sk ++ wPl Z pl (nI N) ls mn hn ha hh dz wh bg en od wi al) ++ wA6 Z ar (upd (upd (upd (upd (fun _ => 0) 0 (nI N)) 1 ls) 2 dy) (3 : Int32).toNatClampNeg ca)) 28 C iX10_digest_42 rfl (vp_in_nI (n := 3) (by omega) (by decide)) rfl ?_
  rw [show Int32.toNatClampNeg 3 = 3 from rfl]
  refine J_dup C iX10_digest_43 rfl ?_
  refine J_iconst 4 C iX10_digest_44 rfl ?_
  refine J_aload_n C iX10_digest_45 rfl rfl ?_
  refine J_cVb (As := []) (st := .int 4 :: .ref (ar 0) :: .ref (ar 0) :: []) (rc2 := 0) (rs2 := 0) C iX10_digest_46 lm_X10_389 yc_X10_allLost yv_X10_allLost (c_X10_allLost  hN ok) (q0 := 0) rfl rfl rfl [] (wA6 Z ar (upd (upd (upd (upd (fun _ => 0) 0 (nI N)) 1 ls) 2 dy) 3 ca)) rfl rfl (rmK_le (by omega) (by decide)) (Nat.le_of_ble_eq_true rfl) rfl rfl ?_
  rintro _ _ ⟨kn_1, sh_1, dk_1, rfl, rfl, okk1⟩
  refine J_st (.int (alM N pc ht fs la) :: .int 4 :: .ref (ar 0) :: .ref (ar 0) :: []) rfl ?_
  refine J_ws ((wMd Z mo pl 0 sz ea tk dp lr dy ca kn_1 tp kd fr me va wo pc ht fs la kh kf kl sh_1 dk_1 sk ++ wPl Z pl (nI N) ls mn hn ha hh dz wh bg en od wi al) ++ wA6 Z ar (upd (upd (upd (upd (fun _ => 0) 0 (nI N)) 1 ls) 2 dy) 3 ca)) rfl ?_
  refine J_iast ((wMd Z mo pl 0 sz ea tk dp lr dy ca kn_1 tp kd fr me va wo pc ht fs la kh kf kl sh_1 dk_1 sk ++ wPl Z pl (nI N) ls mn hn ha hh dz wh bg en od wi al) ++ wA6 Z ar (upd (upd (upd (upd (upd (fun _ => 0) 0 (nI N)) 1 ls) 2 dy) 3 ca) (4 : Int32).toNatClampNeg (alM N pc ht fs la))) 28 C iX10_digest_49 rfl (vp_in_nI (n := 4) (by omega) (by decide)) rfl ?_
  rw [show Int32.toNatClampNeg 4 = 4 from rfl]
  refine J_dup C iX10_digest_50 rfl ?_
  refine J_iconst 5 C iX10_digest_51 rfl ?_
  refine J_aload_n C iX10_digest_52 rfl rfl ?_
  refine J_cVb (As := []) (st := .int 5 :: .ref (ar 0) :: .ref (ar 0) :: []) (rc2 := 0) (rs2 := 0) C iX10_digest_53 lm_X10_392 yc_X10_light yv_X10_light (c_X10_light  hN okk1) (q0 := 0) rfl rfl rfl [] (wA6 Z ar (upd (upd (upd (upd (upd (fun _ => 0) 0 (nI N)) 1 ls) 2 dy) 3 ca) 4 (alM N pc ht fs la))) rfl rfl (rmK_le (by omega) (by decide)) (Nat.le_of_ble_eq_true rfl) rfl rfl ?_
  rintro _ _ ⟨kn_2, sh_2, dk_2, rfl, rfl, okk2⟩
  refine J_st (.int (sumN (fun a => b2i (decide (lsM N pc ht fs la a = 0))) N) :: .int 5 :: .ref (ar 0) :: .ref (ar 0) :: []) rfl ?_
  refine J_ws ((wMd Z mo pl 0 sz ea tk dp lr dy ca kn_2 tp kd fr me va wo pc ht fs la kh kf kl sh_2 dk_2 sk ++ wPl Z pl (nI N) ls mn hn ha hh dz wh bg en od wi al) ++ wA6 Z ar (upd (upd (upd (upd (upd (fun _ => 0) 0 (nI N)) 1 ls) 2 dy) 3 ca) 4 (alM N pc ht fs la))) rfl ?_
  refine J_iast ((wMd Z mo pl 0 sz ea tk dp lr dy ca kn_2 tp kd fr me va wo pc ht fs la kh kf kl sh_2 dk_2 sk ++ wPl Z pl (nI N) ls mn hn ha hh dz wh bg en od wi al) ++ wA6 Z ar (upd (upd (upd (upd (upd (upd (fun _ => 0) 0 (nI N)) 1 ls) 2 dy) 3 ca) 4 (alM N pc ht fs la)) (5 : Int32).toNatClampNeg (sumN (fun a => b2i (decide (lsM N pc ht fs la a = 0))) N))) 28 C iX10_digest_56 rfl (vp_in_nI (n := 5) (by omega) (by decide)) rfl ?_
  rw [show Int32.toNatClampNeg 5 = 5 from rfl]
  refine J_astore_n [(1, .ref (ar 0)), (0, .ref (mo 0))] C iX10_digest_57 rfl (by decide) rfl ?_
  refine J_ldc2 1013 C iX10_digest_58 (tsg_in (i := 1830) (by decide +kernel) rfl) ?_
  refine J_lstore_n [(2, .long 1013), (1, .ref (ar 0)), (0, .ref (mo 0))] C iX10_digest_61 rfl (by decide) rfl ?_
  obtain ⟨A9, hA9⟩ : ∃ z, z = upd (upd (upd (upd (upd (upd (fun _ => 0) 0 (nI N)) 1 ls) 2 dy) 3 ca) 4 (alM N pc ht fs la)) 5 (sumN (fun a => b2i (decide (lsM N pc ht fs la a = 0))) N) := ⟨_, rfl⟩
  rw [← hA9]
  refine J_aload_n C iX10_digest_62 rfl rfl ?_
  refine J_astore [(4, .ref (ar 0)), (2, .long 1013), (1, .ref (ar 0)), (0, .ref (mo 0))] C iX10_digest_63 (by decide) rfl ?_
  refine J_aload C iX10_digest_65 rfl ?_
  refine J_alen (t0 := 0) 6 28 C iX10_digest_67 rfl rfl rfl ?_
  refine J_istore [(5, .int 6), (4, .ref (ar 0)), (2, .long 1013), (1, .ref (ar 0)), (0, .ref (mo 0))] C iX10_digest_68 (by decide) rfl ?_
  refine J_iconst 0 C iX10_digest_70 rfl ?_
  refine J_istore [(6, .int 0), (5, .int 6), (4, .ref (ar 0)), (2, .long 1013), (1, .ref (ar 0)), (0, .ref (mo 0))] C iX10_digest_71 (by decide) rfl ?_
  refine J_lvm [(2, .long 1013), (6, .int 0), (5, .int 6), (4, .ref (ar 0)), (0, .ref (mo 0))] (by rfl) ?_
  refine J_forI (σ := Bool × (Nat → Int32) × (Nat → Int32)) (fun k q => [(2, .long (dgF A9 1013 k)), (6, .int (nI k)), (5, .int 6), (4, .ref (ar 0)), (0, .ref (mo 0))]) (fun k q => ((wMd Z mo pl 0 sz ea tk dp lr dy ca q.1 tp kd fr me va wo pc ht fs la kh kf kl q.2.1 q.2.2 sk ++ wPl Z pl (nI N) ls mn hn ha hh dz wh bg en od wi al) ++ wA6 Z ar A9)) (fun k q => (q.1 = true → LkOk N pc ht fs la q.2.1 q.2.2) ∧ True) 6 0 (kn_2, sh_2, dk_2) (by omega) ⟨okk2, trivial⟩ ?_ ?_
  · rintro ⟨kn5, sh5, dk5⟩ hI
    dsimp only at hI ⊢
    refine J_iload C iX10_digest_73 rfl ?_
    refine J_iload C iX10_digest_75 rfl ?_
    refine J_icmpge 103 C iX10_digest_77 rfl (fun h77 => ?_) (fun h77 => absurd (by decide) h77)
    refine J_iconst 0 C iX10_digest_103 rfl ?_
    refine J_istore [(4, .int 0), (2, .long (dgF A9 1013 6)), (6, .int (nI 6)), (5, .int 6), (0, .ref (mo 0))] C iX10_digest_104 (by decide) rfl ?_
    refine J_lvm [(2, .long (dgF A9 1013 6)), (4, .int 0), (0, .ref (mo 0))] (by rfl) ?_
    refine J_forI (σ := Bool × (Nat → Int32) × (Nat → Int32)) (fun i q => [(2, .long (dgMO pc ht fs la (lsM N pc ht fs la) (ctM N pc ht fs la) (fun a b => bitC (lkM pc ht fs la a b)) N (dgF A9 1013 6) i)), (4, .int (nI i)), (0, .ref (mo 0))]) (fun i q => ((wMd Z mo pl 0 sz ea tk dp lr dy ca q.1 tp kd fr me va wo pc ht fs la kh kf kl q.2.1 q.2.2 sk ++ wPl Z pl (nI N) ls mn hn ha hh dz wh bg en od wi al) ++ wA6 Z ar A9)) (fun i q => (q.1 = true → LkOk N pc ht fs la q.2.1 q.2.2) ∧ True) N 0 (kn5, sh5, dk5) (by omega) hI ?_ ?_
    · rintro ⟨kn6, sh6, dk6⟩ hI
      dsimp only at hI ⊢
      refine J_iload C iX10_digest_106 rfl ?_
      refine J_aload_n C iX10_digest_108 rfl rfl ?_
      refine J_get (.ref (pl 0)) 0 C iX10_digest_109 gf_X10_20 rfl rfl ?_
      refine J_get (.int (nI N)) 17 C iX10_digest_112 gf_X10_73 rfl rfl ?_
      refine J_icmpge 241 C iX10_digest_115 rfl (fun h115 => ?_) (fun h115 => absurd (nI_le (Nat.le_refl N) (by omega)) h115)
      refine J_bipush 6 C iX10_digest_241 rfl ?_
      refine J_istore [(4, .int 6), (2, .long (dgMO pc ht fs la (lsM N pc ht fs la) (ctM N pc ht fs la) (fun a b => bitC (lkM pc ht fs la a b)) N (dgF A9 1013 6) N)), (0, .ref (mo 0))] C iX10_digest_243 (by decide) rfl ?_
      refine J_lvm [(2, .long (dgMO pc ht fs la (lsM N pc ht fs la) (ctM N pc ht fs la) (fun a b => bitC (lkM pc ht fs la a b)) N (dgF A9 1013 6) N)), (4, .int 6), (0, .ref (mo 0))] (by rfl) ?_
      refine J_forI (σ := Bool × (Nat → Int32) × (Nat → Int32)) (fun k q => [(2, .long (dgMR (fun h => inM (dkM N pc ht fs la) h N) (dgMO pc ht fs la (lsM N pc ht fs la) (ctM N pc ht fs la) (fun a b => bitC (lkM pc ht fs la a b)) N (dgF A9 1013 6) N) (k - 6))), (4, .int (nI k)), (0, .ref (mo 0))]) (fun k q => ((wMd Z mo pl 0 sz ea tk dp lr dy ca q.1 tp kd fr me va wo pc ht fs la kh kf kl q.2.1 q.2.2 sk ++ wPl Z pl (nI N) ls mn hn ha hh dz wh bg en od wi al) ++ wA6 Z ar A9)) (fun k q => (q.1 = true → LkOk N pc ht fs la q.2.1 q.2.2) ∧ True) 19 6 (kn6, sh6, dk6) (by omega) hI ?_ ?_
      · rintro ⟨kn8, sh8, dk8⟩ hL
        dsimp only at hL ⊢
        refine J_iload C iX10_digest_245 rfl ?_
        refine J_bipush 18 C iX10_digest_247 rfl ?_
        refine J_icmpgt 272 C iX10_digest_249 rfl (fun h249 => ?_) (fun h249 => absurd (by decide) h249)
        refine J_cut (ws := (wMd Z mo pl 0 sz ea tk dp lr dy ca kn8 tp kd fr me va wo pc ht fs la kh kf kl sh8 dk8 sk ++ wPl Z pl (nI N) ls mn hn ha hh dz wh bg en od wi al)) _ ?_
        refine J_lload_n C iX10_digest_272 rfl rfl ?_
        exact J_lret C E iX10_digest_273 ⟨A9, kn8, sh8, dk8, rfl, rfl, rfl, hL.1⟩
      · rintro k ⟨kn8, sh8, dk8⟩ hk0 hk hL ihl
        dsimp only at hL ⊢
        refine J_iload C iX10_digest_245 rfl ?_
        refine J_bipush 18 C iX10_digest_247 rfl ?_
        refine J_icmpgt 272 C iX10_digest_249 rfl (fun h249 => absurd h249 (nI_nlt (a := 18) (b := k) (by omega) (by omega))) (fun h249 => ?_)
        refine J_lload_n C iX10_digest_252 rfl rfl ?_
        refine J_ldc2 31 C iX10_digest_253 (tsg_in (i := 1831) (by decide +kernel) rfl) ?_
        refine J_lmul C iX10_digest_256 ?_
        refine J_aload_n C iX10_digest_257 rfl rfl ?_
        refine J_iload C iX10_digest_258 rfl ?_
        refine J_cVb (As := [.int (nI k)]) (st := .long ((dgMR (fun h => inM (dkM N pc ht fs la) h N) (dgMO pc ht fs la (lsM N pc ht fs la) (ctM N pc ht fs la) (fun a b => bitC (lkM pc ht fs la a b)) N (dgF A9 1013 6) N) (k - 6)) * 31) :: []) (rc2 := 0) (rs2 := 0) C iX10_digest_260 lm_X10_411 yc_X10_inTheDark yv_X10_inTheDark (c_X10_inTheDark  hN hL.1) (q0 := 0) rfl rfl rfl [] (wA6 Z ar A9) rfl rfl (rmK_le (by omega) (by decide)) (Nat.le_of_ble_eq_true rfl) rfl rfl ?_
        rintro _ _ ⟨sh_6, dk_6, rfl, rfl, okk6⟩
        refine J_st (.int (inM (dkM N pc ht fs la) (nI k) N) :: .long ((dgMR (fun h => inM (dkM N pc ht fs la) h N) (dgMO pc ht fs la (lsM N pc ht fs la) (ctM N pc ht fs la) (fun a b => bitC (lkM pc ht fs la a b)) N (dgF A9 1013 6) N) (k - 6)) * 31) :: []) rfl ?_
        refine J_ws ((wMd Z mo pl 0 sz ea tk dp lr dy ca true tp kd fr me va wo pc ht fs la kh kf kl sh_6 dk_6 sk ++ wPl Z pl (nI N) ls mn hn ha hh dz wh bg en od wi al) ++ wA6 Z ar A9) rfl ?_
        refine J_i2l C iX10_digest_263 ?_
        refine J_ladd C iX10_digest_264 ?_
        refine J_lstore_n [(2, .long (((dgMR (fun h => inM (dkM N pc ht fs la) h N) (dgMO pc ht fs la (lsM N pc ht fs la) (ctM N pc ht fs la) (fun a b => bitC (lkM pc ht fs la a b)) N (dgF A9 1013 6) N) (k - 6)) * 31) + ((inM (dkM N pc ht fs la) (nI k) N).toInt64))), (4, .int (nI k)), (0, .ref (mo 0))] C iX10_digest_265 rfl (by decide) rfl ?_
        refine J_iinc ((nI k) + 1) [(4, .int ((nI k) + 1)), (2, .long (((dgMR (fun h => inM (dkM N pc ht fs la) h N) (dgMO pc ht fs la (lsM N pc ht fs la) (ctM N pc ht fs la) (fun a b => bitC (lkM pc ht fs la a b)) N (dgF A9 1013 6) N) (k - 6)) * 31) + ((inM (dkM N pc ht fs la) (nI k) N).toInt64))), (0, .ref (mo 0))] C iX10_digest_266 rfl rfl (by decide) rfl ?_
        rw [show (nI k) + 1 = nI (k + 1) from nI_add _ _]
        refine J_goto 245 C iX10_digest_269 rfl ?_
        refine J_lvm [(2, .long (((dgMR (fun h => inM (dkM N pc ht fs la) h N) (dgMO pc ht fs la (lsM N pc ht fs la) (ctM N pc ht fs la) (fun a b => bitC (lkM pc ht fs la a b)) N (dgF A9 1013 6) N) (k - 6)) * 31) + ((inM (dkM N pc ht fs la) (nI k) N).toInt64))), (4, .int (nI (k + 1))), (0, .ref (mo 0))] rfl ?_
        rw [show ((dgMR (fun h => inM (dkM N pc ht fs la) h N) (dgMO pc ht fs la (lsM N pc ht fs la) (ctM N pc ht fs la) (fun a b => bitC (lkM pc ht fs la a b)) N (dgF A9 1013 6) N) (k - 6)) * 31) + (inM (dkM N pc ht fs la) (nI k) N).toInt64 = dgMR (fun h => inM (dkM N pc ht fs la) h N) (dgMO pc ht fs la (lsM N pc ht fs la) (ctM N pc ht fs la) (fun a b => bitC (lkM pc ht fs la a b)) N (dgF A9 1013 6) N) ((k + 1) - 6) from (dgMR_s hk0).symm]
        exact ihl (true, sh_6, dk_6) ⟨fun _ => okk6, trivial⟩
    · rintro i ⟨kn6, sh6, dk6⟩ hi0 hi hI ih
      dsimp only at hI ⊢
      refine J_iload C iX10_digest_106 rfl ?_
      refine J_aload_n C iX10_digest_108 rfl rfl ?_
      refine J_get (.ref (pl 0)) 0 C iX10_digest_109 gf_X10_20 rfl rfl ?_
      refine J_get (.int (nI N)) 17 C iX10_digest_112 gf_X10_73 rfl rfl ?_
      refine J_icmpge 241 C iX10_digest_115 rfl (fun h115 => absurd h115 (nI_ge hi (by omega))) (fun h115 => ?_)
      refine J_lload_n C iX10_digest_118 rfl rfl ?_
      refine J_ldc2 31 C iX10_digest_119 (tsg_in (i := 1831) (by decide +kernel) rfl) ?_
      refine J_lmul C iX10_digest_122 ?_
      refine J_aload_n C iX10_digest_123 rfl rfl ?_
      refine J_get (.ref (mo 7)) 0 C iX10_digest_124 gf_X10_40 rfl rfl ?_
      refine J_iload C iX10_digest_127 rfl ?_
      refine J_iald 7 C iX10_digest_129 rfl (vp_in_nI (n := i) (by omega) (by decide)) ?_
      rw [nI_clamp (n := i) (by omega)]
      refine J_i2l C iX10_digest_130 ?_
      refine J_ladd C iX10_digest_131 ?_
      refine J_ldc2 31 C iX10_digest_132 (tsg_in (i := 1831) (by decide +kernel) rfl) ?_
      refine J_lmul C iX10_digest_135 ?_
      refine J_aload_n C iX10_digest_136 rfl rfl ?_
      refine J_get (.ref (mo 8)) 0 C iX10_digest_137 gf_X10_43 rfl rfl ?_
      refine J_iload C iX10_digest_140 rfl ?_
      refine J_iald 8 C iX10_digest_142 rfl (vp_in_nI (n := i) (by omega) (by decide)) ?_
      rw [nI_clamp (n := i) (by omega)]
      refine J_i2l C iX10_digest_143 ?_
      refine J_ladd C iX10_digest_144 ?_
      refine J_ldc2 31 C iX10_digest_145 (tsg_in (i := 1831) (by decide +kernel) rfl) ?_
      refine J_lmul C iX10_digest_148 ?_
      refine J_aload_n C iX10_digest_149 rfl rfl ?_
      refine J_get (.ref (mo 9)) 0 C iX10_digest_150 gf_X10_46 rfl rfl ?_
      refine J_iload C iX10_digest_153 rfl ?_
      refine J_iald 9 C iX10_digest_155 rfl (vp_in_nI (n := i) (by omega) (by decide)) ?_
      rw [nI_clamp (n := i) (by omega)]
      refine J_i2l C iX10_digest_156 ?_
      refine J_ladd C iX10_digest_157 ?_
      refine J_lstore_n [(2, .long (((((((dgMO pc ht fs la (lsM N pc ht fs la) (ctM N pc ht fs la) (fun a b => bitC (lkM pc ht fs la a b)) N (dgF A9 1013 6) i) * 31) + ((pc i).toInt64)) * 31) + ((ht i).toInt64)) * 31) + ((fs i).toInt64))), (4, .int (nI i)), (0, .ref (mo 0))] C iX10_digest_158 rfl (by decide) rfl ?_
      refine J_lload_n C iX10_digest_159 rfl rfl ?_
      refine J_ldc2 31 C iX10_digest_160 (tsg_in (i := 1831) (by decide +kernel) rfl) ?_
      refine J_lmul C iX10_digest_163 ?_
      refine J_aload_n C iX10_digest_164 rfl rfl ?_
      refine J_get (.ref (mo 10)) 0 C iX10_digest_165 gf_X10_49 rfl rfl ?_
      refine J_iload C iX10_digest_168 rfl ?_
      refine J_iald 10 C iX10_digest_170 rfl (vp_in_nI (n := i) (by omega) (by decide)) ?_
      rw [nI_clamp (n := i) (by omega)]
      refine J_i2l C iX10_digest_171 ?_
      refine J_ladd C iX10_digest_172 ?_
      refine J_ldc2 31 C iX10_digest_173 (tsg_in (i := 1831) (by decide +kernel) rfl) ?_
      refine J_lmul C iX10_digest_176 ?_
      refine J_aload_n C iX10_digest_177 rfl rfl ?_
      refine J_iload C iX10_digest_178 rfl ?_
      refine J_cVb (As := [.int (nI i)]) (st := .long ((((((((((dgMO pc ht fs la (lsM N pc ht fs la) (ctM N pc ht fs la) (fun a b => bitC (lkM pc ht fs la a b)) N (dgF A9 1013 6) i) * 31) + ((pc i).toInt64)) * 31) + ((ht i).toInt64)) * 31) + ((fs i).toInt64)) * 31) + ((la i).toInt64)) * 31) :: []) (rc2 := 0) (rs2 := 0) C iX10_digest_180 lm_X10_118 yc_X10_lostBy yv_X10_lostBy (c_X10_lostBy  hN hI.1 (by omega)) (q0 := 0) rfl rfl rfl [] (wA6 Z ar A9) rfl rfl (rmK_le (by omega) (by decide)) (Nat.le_of_ble_eq_true rfl) rfl rfl ?_
      rintro _ _ ⟨sh_3, dk_3, rfl, rfl, okk3⟩
      refine J_st (.int (lsM N pc ht fs la i) :: .long ((((((((((dgMO pc ht fs la (lsM N pc ht fs la) (ctM N pc ht fs la) (fun a b => bitC (lkM pc ht fs la a b)) N (dgF A9 1013 6) i) * 31) + ((pc i).toInt64)) * 31) + ((ht i).toInt64)) * 31) + ((fs i).toInt64)) * 31) + ((la i).toInt64)) * 31) :: []) rfl ?_
      refine J_ws ((wMd Z mo pl 0 sz ea tk dp lr dy ca true tp kd fr me va wo pc ht fs la kh kf kl sh_3 dk_3 sk ++ wPl Z pl (nI N) ls mn hn ha hh dz wh bg en od wi al) ++ wA6 Z ar A9) rfl ?_
      refine J_i2l C iX10_digest_183 ?_
      refine J_ladd C iX10_digest_184 ?_
      refine J_ldc2 31 C iX10_digest_185 (tsg_in (i := 1831) (by decide +kernel) rfl) ?_
      refine J_lmul C iX10_digest_188 ?_
      refine J_aload_n C iX10_digest_189 rfl rfl ?_
      refine J_iload C iX10_digest_190 rfl ?_
      refine J_cVb (As := [.int (nI i)]) (st := .long ((((((((((((dgMO pc ht fs la (lsM N pc ht fs la) (ctM N pc ht fs la) (fun a b => bitC (lkM pc ht fs la a b)) N (dgF A9 1013 6) i) * 31) + ((pc i).toInt64)) * 31) + ((ht i).toInt64)) * 31) + ((fs i).toInt64)) * 31) + ((la i).toInt64)) * 31) + ((lsM N pc ht fs la i).toInt64)) * 31) :: []) (rc2 := 0) (rs2 := 0) C iX10_digest_192 lm_X10_189 yc_X10_castOf yv_X10_castOf (c_X10_castOf  hN (fun _ => okk3) (by omega)) (q0 := 0) rfl rfl rfl [] (wA6 Z ar A9) rfl rfl (rmK_le (by omega) (by decide)) (Nat.le_of_ble_eq_true rfl) rfl rfl ?_
      rintro _ _ ⟨kn_4, sh_4, dk_4, rfl, rfl, okk4⟩
      refine J_st (.int (ctM N pc ht fs la i) :: .long ((((((((((((dgMO pc ht fs la (lsM N pc ht fs la) (ctM N pc ht fs la) (fun a b => bitC (lkM pc ht fs la a b)) N (dgF A9 1013 6) i) * 31) + ((pc i).toInt64)) * 31) + ((ht i).toInt64)) * 31) + ((fs i).toInt64)) * 31) + ((la i).toInt64)) * 31) + ((lsM N pc ht fs la i).toInt64)) * 31) :: []) rfl ?_
      refine J_ws ((wMd Z mo pl 0 sz ea tk dp lr dy ca kn_4 tp kd fr me va wo pc ht fs la kh kf kl sh_4 dk_4 sk ++ wPl Z pl (nI N) ls mn hn ha hh dz wh bg en od wi al) ++ wA6 Z ar A9) rfl ?_
      refine J_i2l C iX10_digest_195 ?_
      refine J_ladd C iX10_digest_196 ?_
      refine J_lstore_n [(2, .long (((((((((((((dgMO pc ht fs la (lsM N pc ht fs la) (ctM N pc ht fs la) (fun a b => bitC (lkM pc ht fs la a b)) N (dgF A9 1013 6) i) * 31) + ((pc i).toInt64)) * 31) + ((ht i).toInt64)) * 31) + ((fs i).toInt64)) * 31) + ((la i).toInt64)) * 31) + ((lsM N pc ht fs la i).toInt64)) * 31) + ((ctM N pc ht fs la i).toInt64))), (4, .int (nI i)), (0, .ref (mo 0))] C iX10_digest_197 rfl (by decide) rfl ?_
      refine J_iconst 0 C iX10_digest_198 rfl ?_
      refine J_istore [(5, .int 0), (2, .long (((((((((((((dgMO pc ht fs la (lsM N pc ht fs la) (ctM N pc ht fs la) (fun a b => bitC (lkM pc ht fs la a b)) N (dgF A9 1013 6) i) * 31) + ((pc i).toInt64)) * 31) + ((ht i).toInt64)) * 31) + ((fs i).toInt64)) * 31) + ((la i).toInt64)) * 31) + ((lsM N pc ht fs la i).toInt64)) * 31) + ((ctM N pc ht fs la i).toInt64))), (4, .int (nI i)), (0, .ref (mo 0))] C iX10_digest_199 (by decide) rfl ?_
      rw [show ((((((((((((dgMO pc ht fs la (lsM N pc ht fs la) (ctM N pc ht fs la) (fun a b => bitC (lkM pc ht fs la a b)) N (dgF A9 1013 6) i) * 31) + ((pc i).toInt64)) * 31) + ((ht i).toInt64)) * 31) + ((fs i).toInt64)) * 31) + ((la i).toInt64)) * 31) + ((lsM N pc ht fs la i).toInt64)) * 31) + ((ctM N pc ht fs la i).toInt64) = dgM6 pc ht fs la (lsM N pc ht fs la) (ctM N pc ht fs la) i (dgMO pc ht fs la (lsM N pc ht fs la) (ctM N pc ht fs la) (fun a b => bitC (lkM pc ht fs la a b)) N (dgF A9 1013 6) i) from rfl]
      refine J_lvm [(2, .long (dgM6 pc ht fs la (lsM N pc ht fs la) (ctM N pc ht fs la) i (dgMO pc ht fs la (lsM N pc ht fs la) (ctM N pc ht fs la) (fun a b => bitC (lkM pc ht fs la a b)) N (dgF A9 1013 6) i))), (5, .int 0), (4, .int (nI i)), (0, .ref (mo 0))] (by rfl) ?_
      refine J_forI (σ := Bool × (Nat → Int32) × (Nat → Int32)) (fun j q => [(2, .long (dgF (fun b => bitC (lkM pc ht fs la i b)) (dgM6 pc ht fs la (lsM N pc ht fs la) (ctM N pc ht fs la) i (dgMO pc ht fs la (lsM N pc ht fs la) (ctM N pc ht fs la) (fun a b => bitC (lkM pc ht fs la a b)) N (dgF A9 1013 6) i)) j)), (5, .int (nI j)), (4, .int (nI i)), (0, .ref (mo 0))]) (fun j q => ((wMd Z mo pl 0 sz ea tk dp lr dy ca q.1 tp kd fr me va wo pc ht fs la kh kf kl q.2.1 q.2.2 sk ++ wPl Z pl (nI N) ls mn hn ha hh dz wh bg en od wi al) ++ wA6 Z ar A9)) (fun j q => (q.1 = true → LkOk N pc ht fs la q.2.1 q.2.2) ∧ True) N 0 (kn_4, sh_4, dk_4) (by omega) ⟨okk4, trivial⟩ ?_ ?_
      · rintro ⟨kn7, sh7, dk7⟩ hJ
        dsimp only at hJ ⊢
        refine J_iload C iX10_digest_201 rfl ?_
        refine J_aload_n C iX10_digest_203 rfl rfl ?_
        refine J_get (.ref (pl 0)) 0 C iX10_digest_204 gf_X10_20 rfl rfl ?_
        refine J_get (.int (nI N)) 17 C iX10_digest_207 gf_X10_73 rfl rfl ?_
        refine J_icmpge 235 C iX10_digest_210 rfl (fun h210 => ?_) (fun h210 => absurd (nI_le (Nat.le_refl N) (by omega)) h210)
        refine J_iinc ((nI i) + 1) [(4, .int ((nI i) + 1)), (2, .long (dgF (fun b => bitC (lkM pc ht fs la i b)) (dgM6 pc ht fs la (lsM N pc ht fs la) (ctM N pc ht fs la) i (dgMO pc ht fs la (lsM N pc ht fs la) (ctM N pc ht fs la) (fun a b => bitC (lkM pc ht fs la a b)) N (dgF A9 1013 6) i)) N)), (5, .int (nI N)), (0, .ref (mo 0))] C iX10_digest_235 rfl rfl (by decide) rfl ?_
        rw [show (nI i) + 1 = nI (i + 1) from nI_add _ _]
        refine J_goto 106 C iX10_digest_238 rfl ?_
        refine J_lvm [(2, .long (dgF (fun b => bitC (lkM pc ht fs la i b)) (dgM6 pc ht fs la (lsM N pc ht fs la) (ctM N pc ht fs la) i (dgMO pc ht fs la (lsM N pc ht fs la) (ctM N pc ht fs la) (fun a b => bitC (lkM pc ht fs la a b)) N (dgF A9 1013 6) i)) N)), (4, .int (nI (i + 1))), (0, .ref (mo 0))] rfl ?_
        rw [show dgF (fun b => bitC (lkM pc ht fs la i b)) (dgM6 pc ht fs la (lsM N pc ht fs la) (ctM N pc ht fs la) i (dgMO pc ht fs la (lsM N pc ht fs la) (ctM N pc ht fs la) (fun a b => bitC (lkM pc ht fs la a b)) N (dgF A9 1013 6) i)) N = dgMO pc ht fs la (lsM N pc ht fs la) (ctM N pc ht fs la) (fun a b => bitC (lkM pc ht fs la a b)) N (dgF A9 1013 6) (i + 1) from rfl]
        exact ih (kn7, sh7, dk7) ⟨hJ.1, trivial⟩
      · rintro j ⟨kn7, sh7, dk7⟩ hj0 hj hJ ihj
        dsimp only at hJ ⊢
        refine J_iload C iX10_digest_201 rfl ?_
        refine J_aload_n C iX10_digest_203 rfl rfl ?_
        refine J_get (.ref (pl 0)) 0 C iX10_digest_204 gf_X10_20 rfl rfl ?_
        refine J_get (.int (nI N)) 17 C iX10_digest_207 gf_X10_73 rfl rfl ?_
        refine J_icmpge 235 C iX10_digest_210 rfl (fun h210 => absurd h210 (nI_ge hj (by omega))) (fun h210 => ?_)
        refine J_lload_n C iX10_digest_213 rfl rfl ?_
        refine J_ldc2 31 C iX10_digest_214 (tsg_in (i := 1831) (by decide +kernel) rfl) ?_
        refine J_lmul C iX10_digest_217 ?_
        refine J_aload_n C iX10_digest_218 rfl rfl ?_
        refine J_iload C iX10_digest_219 rfl ?_
        refine J_iload C iX10_digest_221 rfl ?_
        refine J_cVb (As := [.int (nI i), .int (nI j)]) (st := .long ((dgF (fun b => bitC (lkM pc ht fs la i b)) (dgM6 pc ht fs la (lsM N pc ht fs la) (ctM N pc ht fs la) i (dgMO pc ht fs la (lsM N pc ht fs la) (ctM N pc ht fs la) (fun a b => bitC (lkM pc ht fs la a b)) N (dgF A9 1013 6) i)) j) * 31) :: []) (rc2 := 0) (rs2 := 0) C iX10_digest_223 lm_X10_115 yc_X10_lostTo yv_X10_lostTo (c_X10_lostTo  hN hJ.1 (by omega) (by omega)) (q0 := 0) rfl rfl rfl [] (wA6 Z ar A9) rfl rfl (rmK_le (by omega) (by decide)) (Nat.le_of_ble_eq_true rfl) rfl rfl ?_
        rintro _ _ ⟨sh_5, dk_5, rfl, rfl, okk5⟩
        refine J_st (.int (bitC (lkM pc ht fs la i j)) :: .long ((dgF (fun b => bitC (lkM pc ht fs la i b)) (dgM6 pc ht fs la (lsM N pc ht fs la) (ctM N pc ht fs la) i (dgMO pc ht fs la (lsM N pc ht fs la) (ctM N pc ht fs la) (fun a b => bitC (lkM pc ht fs la a b)) N (dgF A9 1013 6) i)) j) * 31) :: []) rfl ?_
        refine J_ws ((wMd Z mo pl 0 sz ea tk dp lr dy ca true tp kd fr me va wo pc ht fs la kh kf kl sh_5 dk_5 sk ++ wPl Z pl (nI N) ls mn hn ha hh dz wh bg en od wi al) ++ wA6 Z ar A9) rfl ?_
        refine J_i2l C iX10_digest_226 ?_
        refine J_ladd C iX10_digest_227 ?_
        refine J_lstore_n [(2, .long (((dgF (fun b => bitC (lkM pc ht fs la i b)) (dgM6 pc ht fs la (lsM N pc ht fs la) (ctM N pc ht fs la) i (dgMO pc ht fs la (lsM N pc ht fs la) (ctM N pc ht fs la) (fun a b => bitC (lkM pc ht fs la a b)) N (dgF A9 1013 6) i)) j) * 31) + ((bitC (lkM pc ht fs la i j)).toInt64))), (5, .int (nI j)), (4, .int (nI i)), (0, .ref (mo 0))] C iX10_digest_228 rfl (by decide) rfl ?_
        refine J_iinc ((nI j) + 1) [(5, .int ((nI j) + 1)), (2, .long (((dgF (fun b => bitC (lkM pc ht fs la i b)) (dgM6 pc ht fs la (lsM N pc ht fs la) (ctM N pc ht fs la) i (dgMO pc ht fs la (lsM N pc ht fs la) (ctM N pc ht fs la) (fun a b => bitC (lkM pc ht fs la a b)) N (dgF A9 1013 6) i)) j) * 31) + ((bitC (lkM pc ht fs la i j)).toInt64))), (4, .int (nI i)), (0, .ref (mo 0))] C iX10_digest_229 rfl rfl (by decide) rfl ?_
        rw [show (nI j) + 1 = nI (j + 1) from nI_add _ _]
        refine J_goto 201 C iX10_digest_232 rfl ?_
        refine J_lvm [(2, .long (((dgF (fun b => bitC (lkM pc ht fs la i b)) (dgM6 pc ht fs la (lsM N pc ht fs la) (ctM N pc ht fs la) i (dgMO pc ht fs la (lsM N pc ht fs la) (ctM N pc ht fs la) (fun a b => bitC (lkM pc ht fs la a b)) N (dgF A9 1013 6) i)) j) * 31) + ((bitC (lkM pc ht fs la i j)).toInt64))), (5, .int (nI (j + 1))), (4, .int (nI i)), (0, .ref (mo 0))] rfl ?_
        rw [show ((dgF (fun b => bitC (lkM pc ht fs la i b)) (dgM6 pc ht fs la (lsM N pc ht fs la) (ctM N pc ht fs la) i (dgMO pc ht fs la (lsM N pc ht fs la) (ctM N pc ht fs la) (fun a b => bitC (lkM pc ht fs la a b)) N (dgF A9 1013 6) i)) j) * 31) + (bitC (lkM pc ht fs la i j)).toInt64 = dgF (fun b => bitC (lkM pc ht fs la i b)) (dgM6 pc ht fs la (lsM N pc ht fs la) (ctM N pc ht fs la) i (dgMO pc ht fs la (lsM N pc ht fs la) (ctM N pc ht fs la) (fun a b => bitC (lkM pc ht fs la a b)) N (dgF A9 1013 6) i)) (j + 1) from rfl]
        exact ihj (true, sh_5, dk_5) ⟨fun _ => okk5, trivial⟩
  · rintro k ⟨kn5, sh5, dk5⟩ hk0 hk hI ih
    dsimp only at hI ⊢
    refine J_iload C iX10_digest_73 rfl ?_
    refine J_iload C iX10_digest_75 rfl ?_
    refine J_icmpge 103 C iX10_digest_77 rfl (fun h77 => absurd h77 (nI_ge (a := k) (b := 6) hk (by decide))) (fun h77 => ?_)
    refine J_aload C iX10_digest_80 rfl ?_
    refine J_iload C iX10_digest_82 rfl ?_
    refine J_iald 28 C iX10_digest_84 rfl (vp_in_nI (n := k) (by omega) (by decide)) ?_
    rw [nI_clamp (n := k) (by omega)]
    refine J_istore [(7, .int (A9 k)), (2, .long (dgF A9 1013 k)), (6, .int (nI k)), (5, .int 6), (4, .ref (ar 0)), (0, .ref (mo 0))] C iX10_digest_85 (by decide) rfl ?_
    refine J_lload_n C iX10_digest_87 rfl rfl ?_
    refine J_ldc2 31 C iX10_digest_88 (tsg_in (i := 1831) (by decide +kernel) rfl) ?_
    refine J_lmul C iX10_digest_91 ?_
    refine J_iload C iX10_digest_92 rfl ?_
    refine J_i2l C iX10_digest_94 ?_
    refine J_ladd C iX10_digest_95 ?_
    refine J_lstore_n [(2, .long (((dgF A9 1013 k) * 31) + ((A9 k).toInt64))), (7, .int (A9 k)), (6, .int (nI k)), (5, .int 6), (4, .ref (ar 0)), (0, .ref (mo 0))] C iX10_digest_96 rfl (by decide) rfl ?_
    refine J_iinc ((nI k) + 1) [(6, .int ((nI k) + 1)), (2, .long (((dgF A9 1013 k) * 31) + ((A9 k).toInt64))), (7, .int (A9 k)), (5, .int 6), (4, .ref (ar 0)), (0, .ref (mo 0))] C iX10_digest_97 rfl rfl (by decide) rfl ?_
    rw [show (nI k) + 1 = nI (k + 1) from nI_add _ _]
    refine J_goto 73 C iX10_digest_100 rfl ?_
    refine J_lvm [(2, .long (((dgF A9 1013 k) * 31) + ((A9 k).toInt64))), (6, .int (nI (k + 1))), (5, .int 6), (4, .ref (ar 0)), (0, .ref (mo 0))] rfl ?_
    rw [show ((dgF A9 1013 k) * 31) + (A9 k).toInt64 = dgF A9 1013 (k + 1) from rfl]
    exact ih (kn5, sh5, dk5) hI

set_option maxRecDepth 100000 in
set_option maxHeartbeats 4000000 in
theorem c_X10_feed {Z : GZ} {l : Launch} {mo pl : Nat → Nat} {N tz : Nat} {th ea tk dp lr dy ca ls mn : Int32} {kn : Bool} {hn va : Nat → Int64} {ha hh dz wh bg en od wi al tp kd fr me wo pc ht fs la kh kf kl sh dk sk : Nat → Int32} {i0 i1 i2 i3 i4 : Int32} (htz : tz ≤ 2000)  : Ct Z l yX10_feed cX10_feed 8 (some .int) (rmM 2 1 5) [.ref (mo 0), .int i0, .int i1, .int i2, .int i3, .int i4] (wMd Z mo pl th (nI tz) ea tk dp lr dy ca kn tp kd fr me va wo pc ht fs la kh kf kl sh dk sk ++ wPl Z pl (nI N) ls mn hn ha hh dz wh bg en od wi al) (fun v w => (¬ tz ≤ 1980 ∧ v = some (.int 0) ∧ w = (wMd Z mo pl 1 (nI tz) ea tk dp lr dy ca kn tp kd fr me va wo pc ht fs la kh kf kl sh dk sk ++ wPl Z pl (nI N) ls mn hn ha hh dz wh bg en od wi al)) ∨ (∃ A9, tz ≤ 1980 ∧ A9 = upd (upd (upd (upd (upd (fun _ => 0) 0 i0) 1 i1) 2 i2) 3 i3) 4 i4 ∧ v = some (.int (nI (tz + 20))) ∧ w = (wMd Z mo pl 0 (nI (tz + 20)) ea tk dp lr dy ca kn (fdM tp A9 tz 20) kd fr me va wo pc ht fs la kh kf kl sh dk sk ++ wPl Z pl (nI N) ls mn hn ha hh dz wh bg en od wi al))) := by
  refine Ct.ofJ (own := RX10) (nm := "feed") (lv0 := [(0, .ref (mo 0)), (1, .int i0), (2, .int i1), (3, .int i2), (4, .int i3), (5, .int i4)]) (by decide) rfl rfl (Nat.le_of_ble_eq_true rfl) rfl (fun X hXl C E => ?_)
  subst hXl
  refine J_aload_n C iX10_feed_0 rfl rfl ?_
  refine J_iconst 0 C iX10_feed_1 rfl ?_
  refine J_put (wMd Z mo pl 0 (nI tz) ea tk dp lr dy ca kn tp kd fr me va wo pc ht fs la kh kf kl sh dk sk ++ wPl Z pl (nI N) ls mn hn ha hh dz wh bg en od wi al) 0 C iX10_feed_2 pf_X10_70 rfl rfl rfl (Nat.le_of_ble_eq_true rfl) rfl ?_
  refine J_aload_n C iX10_feed_5 rfl rfl ?_
  refine J_get (.int (nI tz)) 0 C iX10_feed_6 gf_X10_217 rfl rfl ?_
  refine J_sipush 1980 C iX10_feed_9 rfl ?_
  refine J_icmple 21 C iX10_feed_12 rfl (fun h12 => ?_) (fun h12 => ?_)
  · have h12_ : tz ≤ 1980 := Classical.byContradiction (fun e => absurd (nI_lt (a := 1980) (b := tz) (by omega) (by omega)) (Int32.not_lt.mpr h12))
    refine J_iconst 5 C iX10_feed_21 rfl ?_
    refine J_newI (rc := 0) (rs := 0) 5 C iX10_feed_22 (tsg_in (i := 191) (by decide +kernel) rfl) (by decide) rfl (by decide) (fun q9 => ?_)
    obtain ⟨ar, rfl⟩ : ∃ z : Nat → Nat, q9 = z 0 := ⟨fun _ => q9, rfl⟩
    refine J_ws ((wMd Z mo pl 0 (nI tz) ea tk dp lr dy ca kn tp kd fr me va wo pc ht fs la kh kf kl sh dk sk ++ wPl Z pl (nI N) ls mn hn ha hh dz wh bg en od wi al) ++ wA5 Z ar (fun _ => 0)) rfl ?_
    refine J_dup C iX10_feed_24 rfl ?_
    refine J_iconst 0 C iX10_feed_25 rfl ?_
    refine J_iload_n C iX10_feed_26 rfl rfl ?_
    refine J_iast ((wMd Z mo pl 0 (nI tz) ea tk dp lr dy ca kn tp kd fr me va wo pc ht fs la kh kf kl sh dk sk ++ wPl Z pl (nI N) ls mn hn ha hh dz wh bg en od wi al) ++ wA5 Z ar (upd (fun _ => 0) (0 : Int32).toNatClampNeg i0)) 28 C iX10_feed_27 rfl (vp_in_nI (n := 0) (by omega) (by decide)) rfl ?_
    rw [show Int32.toNatClampNeg 0 = 0 from rfl]
    refine J_dup C iX10_feed_28 rfl ?_
    refine J_iconst 1 C iX10_feed_29 rfl ?_
    refine J_iload_n C iX10_feed_30 rfl rfl ?_
    refine J_iast ((wMd Z mo pl 0 (nI tz) ea tk dp lr dy ca kn tp kd fr me va wo pc ht fs la kh kf kl sh dk sk ++ wPl Z pl (nI N) ls mn hn ha hh dz wh bg en od wi al) ++ wA5 Z ar (upd (upd (fun _ => 0) 0 i0) (1 : Int32).toNatClampNeg i1)) 28 C iX10_feed_31 rfl (vp_in_nI (n := 1) (by omega) (by decide)) rfl ?_
    rw [show Int32.toNatClampNeg 1 = 1 from rfl]
    refine J_dup C iX10_feed_32 rfl ?_
    refine J_iconst 2 C iX10_feed_33 rfl ?_
    refine J_iload_n C iX10_feed_34 rfl rfl ?_
    refine J_iast ((wMd Z mo pl 0 (nI tz) ea tk dp lr dy ca kn tp kd fr me va wo pc ht fs la kh kf kl sh dk sk ++ wPl Z pl (nI N) ls mn hn ha hh dz wh bg en od wi al) ++ wA5 Z ar (upd (upd (upd (fun _ => 0) 0 i0) 1 i1) (2 : Int32).toNatClampNeg i2)) 28 C iX10_feed_35 rfl (vp_in_nI (n := 2) (by omega) (by decide)) rfl ?_
    rw [show Int32.toNatClampNeg 2 = 2 from rfl]
    refine J_dup C iX10_feed_36 rfl ?_
    refine J_iconst 3 C iX10_feed_37 rfl ?_
    refine J_iload C iX10_feed_38 rfl ?_
    refine J_iast ((wMd Z mo pl 0 (nI tz) ea tk dp lr dy ca kn tp kd fr me va wo pc ht fs la kh kf kl sh dk sk ++ wPl Z pl (nI N) ls mn hn ha hh dz wh bg en od wi al) ++ wA5 Z ar (upd (upd (upd (upd (fun _ => 0) 0 i0) 1 i1) 2 i2) (3 : Int32).toNatClampNeg i3)) 28 C iX10_feed_40 rfl (vp_in_nI (n := 3) (by omega) (by decide)) rfl ?_
    rw [show Int32.toNatClampNeg 3 = 3 from rfl]
    refine J_dup C iX10_feed_41 rfl ?_
    refine J_iconst 4 C iX10_feed_42 rfl ?_
    refine J_iload C iX10_feed_43 rfl ?_
    refine J_iast ((wMd Z mo pl 0 (nI tz) ea tk dp lr dy ca kn tp kd fr me va wo pc ht fs la kh kf kl sh dk sk ++ wPl Z pl (nI N) ls mn hn ha hh dz wh bg en od wi al) ++ wA5 Z ar (upd (upd (upd (upd (upd (fun _ => 0) 0 i0) 1 i1) 2 i2) 3 i3) (4 : Int32).toNatClampNeg i4)) 28 C iX10_feed_45 rfl (vp_in_nI (n := 4) (by omega) (by decide)) rfl ?_
    rw [show Int32.toNatClampNeg 4 = 4 from rfl]
    refine J_astore [(6, .ref (ar 0)), (0, .ref (mo 0)), (1, .int i0), (2, .int i1), (3, .int i2), (4, .int i3), (5, .int i4)] C iX10_feed_46 (by decide) rfl ?_
    obtain ⟨A9, hA9⟩ : ∃ z, z = upd (upd (upd (upd (upd (fun _ => 0) 0 i0) 1 i1) 2 i2) 3 i3) 4 i4 := ⟨_, rfl⟩
    rw [← hA9]
    refine J_iconst 0 C iX10_feed_48 rfl ?_
    refine J_istore [(7, .int 0), (6, .ref (ar 0)), (0, .ref (mo 0)), (1, .int i0), (2, .int i1), (3, .int i2), (4, .int i3), (5, .int i4)] C iX10_feed_49 (by decide) rfl ?_
    refine J_lvm [(7, .int 0), (6, .ref (ar 0)), (0, .ref (mo 0))] rfl ?_
    refine J_for (fun k => [(7, .int (nI k)), (6, .ref (ar 0)), (0, .ref (mo 0))]) (fun k => ((wMd Z mo pl 0 (nI tz) ea tk dp lr dy ca kn (fdM tp A9 tz k) kd fr me va wo pc ht fs la kh kf kl sh dk sk ++ wPl Z pl (nI N) ls mn hn ha hh dz wh bg en od wi al) ++ wA5 Z ar A9)) 20 0 (by omega) ?_ (fun k hk0 hk ih => ?_)
    · refine J_iload C iX10_feed_51 rfl ?_
      refine J_bipush 20 C iX10_feed_53 rfl ?_
      refine J_icmpge 98 C iX10_feed_55 rfl (fun h55 => ?_) (fun h55 => absurd (by decide) h55)
      refine J_aload_n C iX10_feed_98 rfl rfl ?_
      refine J_dup C iX10_feed_99 rfl ?_
      refine J_get (.int (nI tz)) 0 C iX10_feed_100 gf_X10_217 rfl rfl ?_
      refine J_bipush 20 C iX10_feed_103 rfl ?_
      refine J_iadd C iX10_feed_105 ?_
      rw [show (nI tz) + 20 = nI (tz + 20) from nI_add _ _]
      refine J_put ((wMd Z mo pl 0 (nI (tz + 20)) ea tk dp lr dy ca kn (fdM tp A9 tz 20) kd fr me va wo pc ht fs la kh kf kl sh dk sk ++ wPl Z pl (nI N) ls mn hn ha hh dz wh bg en od wi al) ++ wA5 Z ar A9) 0 C iX10_feed_106 pf_X10_217 rfl rfl rfl (Nat.le_of_ble_eq_true rfl) rfl ?_
      refine J_aload_n C iX10_feed_109 rfl rfl ?_
      refine J_get (.int (nI (tz + 20))) 0 C iX10_feed_110 gf_X10_217 rfl rfl ?_
      refine J_cut (ws := (wMd Z mo pl 0 (nI (tz + 20)) ea tk dp lr dy ca kn (fdM tp A9 tz 20) kd fr me va wo pc ht fs la kh kf kl sh dk sk ++ wPl Z pl (nI N) ls mn hn ha hh dz wh bg en od wi al)) _ ?_
      exact J_iret C E iX10_feed_113 (Or.inr ⟨A9, h12_, rfl, rfl, rfl⟩)
    · refine J_iload C iX10_feed_51 rfl ?_
      refine J_bipush 20 C iX10_feed_53 rfl ?_
      refine J_icmpge 98 C iX10_feed_55 rfl (fun h55 => absurd h55 (nI_ge (a := k) (b := 20) hk (by decide))) (fun h55 => ?_)
      refine J_aload_n C iX10_feed_58 rfl rfl ?_
      refine J_get (.ref (mo 1)) 0 C iX10_feed_59 gf_X10_9 rfl rfl ?_
      refine J_aload_n C iX10_feed_62 rfl rfl ?_
      refine J_get (.int (nI tz)) 0 C iX10_feed_63 gf_X10_217 rfl rfl ?_
      refine J_iload C iX10_feed_66 rfl ?_
      refine J_iadd C iX10_feed_68 ?_
      rw [show (nI tz) + (nI k) = nI (tz + k) from nI_add _ _]
      refine J_aload C iX10_feed_69 rfl ?_
      refine J_iload C iX10_feed_71 rfl ?_
      refine J_iconst 4 C iX10_feed_73 rfl ?_
      refine J_idiv C iX10_feed_74 (by decide) ?_
      rw [show (nI k) / 4 = nI (k / 4) from k4d k hk]
      refine J_iald 28 C iX10_feed_75 rfl (vp_in_nI (n := (k / 4)) (by omega) (by decide)) ?_
      rw [nI_clamp (n := (k / 4)) (by omega)]
      refine J_bipush 24 C iX10_feed_76 rfl ?_
      refine J_bipush 8 C iX10_feed_78 rfl ?_
      refine J_iload C iX10_feed_80 rfl ?_
      refine J_iconst 4 C iX10_feed_82 rfl ?_
      refine J_irem C iX10_feed_83 (by decide) ?_
      rw [show (nI k) - (nI k) / 4 * 4 = nI (k % 4) from k4m k hk]
      refine J_imul C iX10_feed_84 ?_
      refine J_isub C iX10_feed_85 ?_
      refine J_ishr C iX10_feed_86 ?_
      refine J_sipush 255 C iX10_feed_87 rfl ?_
      refine J_iand C iX10_feed_90 ?_
      refine J_iast ((wMd Z mo pl 0 (nI tz) ea tk dp lr dy ca kn (upd (fdM tp A9 tz k) (nI (tz + k)).toNatClampNeg (((A9 (k / 4)) >>> ((24 - (8 * (nI (k % 4)))) &&& 31)) &&& 255)) kd fr me va wo pc ht fs la kh kf kl sh dk sk ++ wPl Z pl (nI N) ls mn hn ha hh dz wh bg en od wi al) ++ wA5 Z ar A9) 1 C iX10_feed_91 rfl (vp_in_nI (n := tz + k) (by omega) (by decide)) rfl ?_
      rw [nI_clamp (n := (tz + k)) (by omega)]
      refine J_iinc ((nI k) + 1) [(7, .int ((nI k) + 1)), (6, .ref (ar 0)), (0, .ref (mo 0))] C iX10_feed_92 rfl rfl (by decide) rfl ?_
      rw [show (nI k) + 1 = nI (k + 1) from nI_add _ _]
      refine J_goto 51 C iX10_feed_95 rfl ?_
      refine J_lvm [(7, .int (nI (k + 1))), (6, .ref (ar 0)), (0, .ref (mo 0))] rfl ?_
      refine J_ws ((wMd Z mo pl 0 (nI tz) ea tk dp lr dy ca kn (fdM tp A9 tz (k + 1)) kd fr me va wo pc ht fs la kh kf kl sh dk sk ++ wPl Z pl (nI N) ls mn hn ha hh dz wh bg en od wi al) ++ wA5 Z ar A9) rfl ?_
      exact ih
  · have h12_ : ¬ tz ≤ 1980 := Classical.byContradiction (fun e => h12 (nI_le (a := tz) (b := 1980) (by omega) (by decide)))
    refine J_aload_n C iX10_feed_15 rfl rfl ?_
    refine J_iconst 1 C iX10_feed_16 rfl ?_
    refine J_cVb (As := [.int 1]) (st := []) (rc2 := (rmM 2 1 5).cells) (rs2 := (rmM 2 1 5).slots) C iX10_feed_17 lm_X10_380 yc_X10_no yv_X10_no c_X10_no (q0 := 0) rfl rfl rfl [] [] rfl rfl (rmK_le (by omega) (by decide)) (Nat.le_of_ble_eq_true rfl) rfl rfl ?_
    rintro _ _ ⟨rfl, rfl⟩
    refine J_st (.int 0 :: []) rfl ?_
    refine J_ws (wMd Z mo pl 1 (nI tz) ea tk dp lr dy ca kn tp kd fr me va wo pc ht fs la kh kf kl sh dk sk ++ wPl Z pl (nI N) ls mn hn ha hh dz wh bg en od wi al) rfl ?_
    exact J_iret C E iX10_feed_20 (Or.inl ⟨h12_, rfl, rfl⟩)

