set_option maxRecDepth 100000 in
set_option maxHeartbeats 4000000 in
theorem c_X10_worstOf {Z : GZ} {l : Launch} {mo pl : Nat → Nat} {N : Nat} {th sz ea tk dp lr dy ca ls mn : Int32} {kn : Bool} {hn va : Nat → Int64} {ha hh dz wh bg en od wi al tp kd fr me wo pc ht fs la kh kf kl sh dk sk : Nat → Int32} (hN : N ≤ 12) (ok : kn = true → LkOk N pc ht fs la sh dk)  : Ct Z l yX10_worstOf cX10_worstOf 3 (some .int) (rmK 6) [.ref (mo 0)] (wMd Z mo pl th sz ea tk dp lr dy ca kn tp kd fr me va wo pc ht fs la kh kf kl sh dk sk ++ wPl Z pl (nI N) ls mn hn ha hh dz wh bg en od wi al) (fun v w => ∃ kn2 sh2 dk2, v = some (.int (wrM (lsM N pc ht fs la) N)) ∧ w = (wMd Z mo pl th sz ea tk dp lr dy ca kn2 tp kd fr me va wo pc ht fs la kh kf kl sh2 dk2 sk ++ wPl Z pl (nI N) ls mn hn ha hh dz wh bg en od wi al) ∧ (kn2 = true → LkOk N pc ht fs la sh2 dk2)) := by
  refine Ct.ofJ (own := RX10) (nm := "worstOf") (lv0 := [(0, .ref (mo 0))]) (by decide) rfl rfl (Nat.le_of_ble_eq_true rfl) rfl (fun X hXl C E => ?_)
  subst hXl
  refine J_iconst (-1) C iX10_worstOf_0 rfl ?_
  refine J_istore_n [(1, .int (-1)), (0, .ref (mo 0))] C iX10_worstOf_1 rfl (by decide) rfl ?_
  refine J_iconst 0 C iX10_worstOf_2 rfl ?_
  refine J_istore_n [(2, .int 0), (1, .int (-1)), (0, .ref (mo 0))] C iX10_worstOf_3 rfl (by decide) rfl ?_
  refine J_lvm [(1, .int (-1)), (2, .int 0), (0, .ref (mo 0))] (by rfl) ?_
  refine J_forI (σ := Bool × (Nat → Int32) × (Nat → Int32)) (fun k q => [(1, .int (wrM (lsM N pc ht fs la) k)), (2, .int (nI k)), (0, .ref (mo 0))]) (fun k q => (wMd Z mo pl th sz ea tk dp lr dy ca q.1 tp kd fr me va wo pc ht fs la kh kf kl q.2.1 q.2.2 sk ++ wPl Z pl (nI N) ls mn hn ha hh dz wh bg en od wi al)) (fun k q => q.1 = true → LkOk N pc ht fs la q.2.1 q.2.2) N 0 (kn, sh, dk) (by omega) ok ?_ ?_
  · rintro ⟨kn5, sh5, dk5⟩ hI
    dsimp only at hI ⊢
    refine J_iload_n C iX10_worstOf_4 rfl rfl ?_
    refine J_aload_n C iX10_worstOf_5 rfl rfl ?_
    refine J_get (.ref (pl 0)) 0 C iX10_worstOf_6 gf_X10_20 rfl rfl ?_
    refine J_get (.int (nI N)) 17 C iX10_worstOf_9 gf_X10_73 rfl rfl ?_
    refine J_icmpge 41 C iX10_worstOf_12 rfl (fun h12 => ?_) (fun h12 => absurd (nI_le (Nat.le_refl N) (by omega)) h12)
    refine J_iload_n C iX10_worstOf_41 rfl rfl ?_
    exact J_iret C E iX10_worstOf_42 ⟨kn5, sh5, dk5, rfl, rfl, hI⟩
  · rintro k ⟨kn5, sh5, dk5⟩ hk0 hk hI ih
    dsimp only at hI ⊢
    refine J_iload_n C iX10_worstOf_4 rfl rfl ?_
    refine J_aload_n C iX10_worstOf_5 rfl rfl ?_
    refine J_get (.ref (pl 0)) 0 C iX10_worstOf_6 gf_X10_20 rfl rfl ?_
    refine J_get (.int (nI N)) 17 C iX10_worstOf_9 gf_X10_73 rfl rfl ?_
    refine J_icmpge 41 C iX10_worstOf_12 rfl (fun h12 => absurd h12 (nI_ge hk (by omega))) (fun h12 => ?_)
    by_cases z : k = 0
    · refine J_lvm [(1, .int (-1)), (2, .int (nI k)), (0, .ref (mo 0))] (by rw [z]; rfl) ?_
      refine J_iload_n C iX10_worstOf_15 rfl rfl ?_
      refine J_iconst (-1) C iX10_worstOf_16 rfl ?_
      refine J_icmpeq 33 C iX10_worstOf_17 rfl (fun h17 => ?_) (fun h17 => absurd (by decide) h17)
      refine J_iload_n C iX10_worstOf_33 rfl rfl ?_
      refine J_istore_n [(1, .int (nI k)), (2, .int (nI k)), (0, .ref (mo 0))] C iX10_worstOf_34 rfl (by decide) rfl ?_
      refine J_iinc ((nI k) + 1) [(2, .int ((nI k) + 1)), (1, .int (nI k)), (0, .ref (mo 0))] C iX10_worstOf_35 rfl rfl (by decide) rfl ?_
      rw [show (nI k) + 1 = nI (k + 1) from nI_add _ _]
      refine J_goto 4 C iX10_worstOf_38 rfl ?_
      refine J_lvm [(1, .int (nI k)), (2, .int (nI (k + 1))), (0, .ref (mo 0))] rfl ?_
      rw [show nI k = wrM (lsM N pc ht fs la) (k + 1) from by rw [z]; exact (congrArg nI amx_1).symm]
      exact ih (kn5, sh5, dk5) hI
    · have hax := amx_lt' (f := (lsM N pc ht fs la)) (k := k) (by omega)
      refine J_lvm [(1, .int (nI (amx (lsM N pc ht fs la) k))), (2, .int (nI k)), (0, .ref (mo 0))] (by rw [wrM_s z]; rfl) ?_
      refine J_iload_n C iX10_worstOf_15 rfl rfl ?_
      refine J_iconst (-1) C iX10_worstOf_16 rfl ?_
      refine J_icmpeq 33 C iX10_worstOf_17 rfl (fun h17 => absurd h17 (nI_ne1 (by omega))) (fun h17 => ?_)
      refine J_aload_n C iX10_worstOf_20 rfl rfl ?_
      refine J_iload_n C iX10_worstOf_21 rfl rfl ?_
      refine J_cVb (As := [.int (nI k)]) (st := []) (rc2 := (rmK 6).cells) (rs2 := (rmK 6).slots) C iX10_worstOf_22 lm_X10_118 yc_X10_lostBy yv_X10_lostBy (c_X10_lostBy hN hI (by omega)) (q0 := 0) rfl rfl rfl [] [] rfl rfl (rmK_le (by omega) (by decide)) (Nat.le_of_ble_eq_true rfl) rfl rfl ?_
      rintro _ _ ⟨sh_1, dk_1, rfl, rfl, okk1⟩
      refine J_st (.int (lsM N pc ht fs la k) :: []) rfl ?_
      refine J_ws (wMd Z mo pl th sz ea tk dp lr dy ca true tp kd fr me va wo pc ht fs la kh kf kl sh_1 dk_1 sk ++ wPl Z pl (nI N) ls mn hn ha hh dz wh bg en od wi al) rfl ?_
      refine J_aload_n C iX10_worstOf_25 rfl rfl ?_
      refine J_iload_n C iX10_worstOf_26 rfl rfl ?_
      refine J_cVb (As := [.int (nI (amx (lsM N pc ht fs la) k))]) (st := .int (lsM N pc ht fs la k) :: []) (rc2 := (rmK 6).cells) (rs2 := (rmK 6).slots) C iX10_worstOf_27 lm_X10_118 yc_X10_lostBy yv_X10_lostBy (c_X10_lostBy hN (fun _ => okk1) (by omega)) (q0 := 0) rfl rfl rfl [] [] rfl rfl (rmK_le (by omega) (by decide)) (Nat.le_of_ble_eq_true rfl) rfl rfl ?_
      rintro _ _ ⟨sh_2, dk_2, rfl, rfl, okk2⟩
      refine J_st (.int (lsM N pc ht fs la (amx (lsM N pc ht fs la) k)) :: .int (lsM N pc ht fs la k) :: []) rfl ?_
      refine J_ws (wMd Z mo pl th sz ea tk dp lr dy ca true tp kd fr me va wo pc ht fs la kh kf kl sh_2 dk_2 sk ++ wPl Z pl (nI N) ls mn hn ha hh dz wh bg en od wi al) rfl ?_
      refine J_icmple 35 C iX10_worstOf_30 rfl (fun h30 => ?_) (fun h30 => ?_)
      · refine J_iinc ((nI k) + 1) [(2, .int ((nI k) + 1)), (1, .int (nI (amx (lsM N pc ht fs la) k))), (0, .ref (mo 0))] C iX10_worstOf_35 rfl rfl (by decide) rfl ?_
        rw [show (nI k) + 1 = nI (k + 1) from nI_add _ _]
        refine J_goto 4 C iX10_worstOf_38 rfl ?_
        refine J_lvm [(1, .int (nI (amx (lsM N pc ht fs la) k))), (2, .int (nI (k + 1))), (0, .ref (mo 0))] rfl ?_
        rw [show nI (amx (lsM N pc ht fs la) k) = wrM (lsM N pc ht fs la) (k + 1) from by rw [wrM, amx, if_neg (Int32.not_lt.mpr h30)]]
        exact ih (true, sh_2, dk_2) (fun _ => okk2)
      · refine J_iload_n C iX10_worstOf_33 rfl rfl ?_
        refine J_istore_n [(1, .int (nI k)), (2, .int (nI k)), (0, .ref (mo 0))] C iX10_worstOf_34 rfl (by decide) rfl ?_
        refine J_iinc ((nI k) + 1) [(2, .int ((nI k) + 1)), (1, .int (nI k)), (0, .ref (mo 0))] C iX10_worstOf_35 rfl rfl (by decide) rfl ?_
        rw [show (nI k) + 1 = nI (k + 1) from nI_add _ _]
        refine J_goto 4 C iX10_worstOf_38 rfl ?_
        refine J_lvm [(1, .int (nI k)), (2, .int (nI (k + 1))), (0, .ref (mo 0))] rfl ?_
        rw [show nI k = wrM (lsM N pc ht fs la) (k + 1) from by rw [wrM, amx, if_pos (Int32.not_le.mp h30)]]
        exact ih (true, sh_2, dk_2) (fun _ => okk2)

set_option maxRecDepth 100000 in
set_option maxHeartbeats 4000000 in
theorem c_X10_keep {Z : GZ} {l : Launch} {mo pl : Nat → Nat} {th sz ea tk dp lr dy ca ls mn : Int32} {kn : Bool} {hn va : Nat → Int64} {ha hh dz wh bg en od wi al tp kd fr me wo pc ht fs la kh kf kl sh dk sk : Nat → Int32}  : Ct Z l yX10_keep cX10_keep 1 none (rmK 1) [.ref (mo 0)] (wMd Z mo pl th sz ea tk dp lr dy ca kn tp kd fr me va wo pc ht fs la kh kf kl sh dk sk) (fun v w => v = none ∧ w = (wMd Z mo pl th sz ea tk dp lr dy ca kn tp kd fr me va wo pc ht fs la ht fs la sh dk sk)) := by
  refine Ct.ofJ (own := RX10) (nm := "keep") (lv0 := [(0, .ref (mo 0))]) (by decide) rfl rfl (Nat.le_of_ble_eq_true rfl) rfl (fun X hXl C E => ?_)
  subst hXl
  refine J_aload_n C iX10_keep_0 rfl rfl ?_
  refine J_get (.ref (mo 8)) 0 C iX10_keep_1 gf_X10_43 rfl rfl ?_
  refine J_iconst 0 C iX10_keep_4 rfl ?_
  refine J_aload_n C iX10_keep_5 rfl rfl ?_
  refine J_get (.ref (mo 11)) 0 C iX10_keep_6 gf_X10_52 rfl rfl ?_
  refine J_iconst 0 C iX10_keep_9 rfl ?_
  refine J_bipush 12 C iX10_keep_10 rfl ?_
  refine J_copy (wMd Z mo pl th sz ea tk dp lr dy ca kn tp kd fr me va wo pc ht fs la (va_cpy ht kh 0 0 12) kf kl sh dk sk) 8 11 C iX10_keep_12 (tsg_in (i := 1801) (by decide +kernel) rfl) ac_1 ac_2 ac_3 rfl rfl (by decide) (by decide) (by decide) (by decide) (by decide) (by decide) (Nat.le_of_ble_eq_true rfl) rfl ?_
  refine J_rowI 11 (g := ht) (wMd Z mo pl th sz ea tk dp lr dy ca kn tp kd fr me va wo pc ht fs la ht kf kl sh dk sk) rfl (fun i hi => cpy_all hi) rfl ?_
  refine J_aload_n C iX10_keep_15 rfl rfl ?_
  refine J_get (.ref (mo 9)) 0 C iX10_keep_16 gf_X10_46 rfl rfl ?_
  refine J_iconst 0 C iX10_keep_19 rfl ?_
  refine J_aload_n C iX10_keep_20 rfl rfl ?_
  refine J_get (.ref (mo 12)) 0 C iX10_keep_21 gf_X10_55 rfl rfl ?_
  refine J_iconst 0 C iX10_keep_24 rfl ?_
  refine J_bipush 12 C iX10_keep_25 rfl ?_
  refine J_copy (wMd Z mo pl th sz ea tk dp lr dy ca kn tp kd fr me va wo pc ht fs la ht (va_cpy fs kf 0 0 12) kl sh dk sk) 9 12 C iX10_keep_27 (tsg_in (i := 1801) (by decide +kernel) rfl) ac_1 ac_2 ac_3 rfl rfl (by decide) (by decide) (by decide) (by decide) (by decide) (by decide) (Nat.le_of_ble_eq_true rfl) rfl ?_
  refine J_rowI 12 (g := fs) (wMd Z mo pl th sz ea tk dp lr dy ca kn tp kd fr me va wo pc ht fs la ht fs kl sh dk sk) rfl (fun i hi => cpy_all hi) rfl ?_
  refine J_aload_n C iX10_keep_30 rfl rfl ?_
  refine J_get (.ref (mo 10)) 0 C iX10_keep_31 gf_X10_49 rfl rfl ?_
  refine J_iconst 0 C iX10_keep_34 rfl ?_
  refine J_aload_n C iX10_keep_35 rfl rfl ?_
  refine J_get (.ref (mo 13)) 0 C iX10_keep_36 gf_X10_58 rfl rfl ?_
  refine J_iconst 0 C iX10_keep_39 rfl ?_
  refine J_bipush 12 C iX10_keep_40 rfl ?_
  refine J_copy (wMd Z mo pl th sz ea tk dp lr dy ca kn tp kd fr me va wo pc ht fs la ht fs (va_cpy la kl 0 0 12) sh dk sk) 10 13 C iX10_keep_42 (tsg_in (i := 1801) (by decide +kernel) rfl) ac_1 ac_2 ac_3 rfl rfl (by decide) (by decide) (by decide) (by decide) (by decide) (by decide) (Nat.le_of_ble_eq_true rfl) rfl ?_
  refine J_rowI 13 (g := la) (wMd Z mo pl th sz ea tk dp lr dy ca kn tp kd fr me va wo pc ht fs la ht fs la sh dk sk) rfl (fun i hi => cpy_all hi) rfl ?_
  exact J_vret C E iX10_keep_45 ⟨rfl, rfl⟩

set_option maxRecDepth 100000 in
set_option maxHeartbeats 4000000 in
theorem c_X10_bringBack {Z : GZ} {l : Launch} {mo pl : Nat → Nat} {th sz ea tk dp lr dy ca ls mn : Int32} {kn : Bool} {hn va : Nat → Int64} {ha hh dz wh bg en od wi al tp kd fr me wo pc ht fs la kh kf kl sh dk sk : Nat → Int32} {x_ y_ : Int32}  : Ct Z l yX10_bringBack cX10_bringBack 3 none (rmK 1) [.ref (mo 0), .int x_, .int y_] (wMd Z mo pl th sz ea tk dp lr dy ca kn tp kd fr me va wo pc ht fs la kh kf kl sh dk sk) (fun v w => v = none ∧ w = (wMd Z mo pl th sz ea tk dp lr x_ y_ false tp kd fr me va wo pc kh kf kl kh kf kl sh dk sk)) := by
  refine Ct.ofJ (own := RX10) (nm := "bringBack") (lv0 := [(0, .ref (mo 0)), (1, .int x_), (2, .int y_)]) (by decide) rfl rfl (Nat.le_of_ble_eq_true rfl) rfl (fun X hXl C E => ?_)
  subst hXl
  refine J_aload_n C iX10_bringBack_0 rfl rfl ?_
  refine J_get (.ref (mo 11)) 0 C iX10_bringBack_1 gf_X10_52 rfl rfl ?_
  refine J_iconst 0 C iX10_bringBack_4 rfl ?_
  refine J_aload_n C iX10_bringBack_5 rfl rfl ?_
  refine J_get (.ref (mo 8)) 0 C iX10_bringBack_6 gf_X10_43 rfl rfl ?_
  refine J_iconst 0 C iX10_bringBack_9 rfl ?_
  refine J_bipush 12 C iX10_bringBack_10 rfl ?_
  refine J_copy (wMd Z mo pl th sz ea tk dp lr dy ca kn tp kd fr me va wo pc (va_cpy kh ht 0 0 12) fs la kh kf kl sh dk sk) 11 8 C iX10_bringBack_12 (tsg_in (i := 1801) (by decide +kernel) rfl) ac_1 ac_2 ac_3 rfl rfl (by decide) (by decide) (by decide) (by decide) (by decide) (by decide) (Nat.le_of_ble_eq_true rfl) rfl ?_
  refine J_rowI 8 (g := kh) (wMd Z mo pl th sz ea tk dp lr dy ca kn tp kd fr me va wo pc kh fs la kh kf kl sh dk sk) rfl (fun i hi => cpy_all hi) rfl ?_
  refine J_aload_n C iX10_bringBack_15 rfl rfl ?_
  refine J_get (.ref (mo 12)) 0 C iX10_bringBack_16 gf_X10_55 rfl rfl ?_
  refine J_iconst 0 C iX10_bringBack_19 rfl ?_
  refine J_aload_n C iX10_bringBack_20 rfl rfl ?_
  refine J_get (.ref (mo 9)) 0 C iX10_bringBack_21 gf_X10_46 rfl rfl ?_
  refine J_iconst 0 C iX10_bringBack_24 rfl ?_
  refine J_bipush 12 C iX10_bringBack_25 rfl ?_
  refine J_copy (wMd Z mo pl th sz ea tk dp lr dy ca kn tp kd fr me va wo pc kh (va_cpy kf fs 0 0 12) la kh kf kl sh dk sk) 12 9 C iX10_bringBack_27 (tsg_in (i := 1801) (by decide +kernel) rfl) ac_1 ac_2 ac_3 rfl rfl (by decide) (by decide) (by decide) (by decide) (by decide) (by decide) (Nat.le_of_ble_eq_true rfl) rfl ?_
  refine J_rowI 9 (g := kf) (wMd Z mo pl th sz ea tk dp lr dy ca kn tp kd fr me va wo pc kh kf la kh kf kl sh dk sk) rfl (fun i hi => cpy_all hi) rfl ?_
  refine J_aload_n C iX10_bringBack_30 rfl rfl ?_
  refine J_get (.ref (mo 13)) 0 C iX10_bringBack_31 gf_X10_58 rfl rfl ?_
  refine J_iconst 0 C iX10_bringBack_34 rfl ?_
  refine J_aload_n C iX10_bringBack_35 rfl rfl ?_
  refine J_get (.ref (mo 10)) 0 C iX10_bringBack_36 gf_X10_49 rfl rfl ?_
  refine J_iconst 0 C iX10_bringBack_39 rfl ?_
  refine J_bipush 12 C iX10_bringBack_40 rfl ?_
  refine J_copy (wMd Z mo pl th sz ea tk dp lr dy ca kn tp kd fr me va wo pc kh kf (va_cpy kl la 0 0 12) kh kf kl sh dk sk) 13 10 C iX10_bringBack_42 (tsg_in (i := 1801) (by decide +kernel) rfl) ac_1 ac_2 ac_3 rfl rfl (by decide) (by decide) (by decide) (by decide) (by decide) (by decide) (Nat.le_of_ble_eq_true rfl) rfl ?_
  refine J_rowI 10 (g := kl) (wMd Z mo pl th sz ea tk dp lr dy ca kn tp kd fr me va wo pc kh kf kl kh kf kl sh dk sk) rfl (fun i hi => cpy_all hi) rfl ?_
  refine J_aload_n C iX10_bringBack_45 rfl rfl ?_
  refine J_iload_n C iX10_bringBack_46 rfl rfl ?_
  refine J_put (wMd Z mo pl th sz ea tk dp lr x_ ca kn tp kd fr me va wo pc kh kf kl kh kf kl sh dk sk) 0 C iX10_bringBack_47 pf_X10_127 rfl rfl rfl (Nat.le_of_ble_eq_true rfl) rfl ?_
  refine J_aload_n C iX10_bringBack_50 rfl rfl ?_
  refine J_iload_n C iX10_bringBack_51 rfl rfl ?_
  refine J_put (wMd Z mo pl th sz ea tk dp lr x_ y_ kn tp kd fr me va wo pc kh kf kl kh kf kl sh dk sk) 0 C iX10_bringBack_52 pf_X10_130 rfl rfl rfl (Nat.le_of_ble_eq_true rfl) rfl ?_
  refine J_aload_n C iX10_bringBack_55 rfl rfl ?_
  refine J_iconst 0 C iX10_bringBack_56 rfl ?_
  refine J_put (wMd Z mo pl th sz ea tk dp lr x_ y_ false tp kd fr me va wo pc kh kf kl kh kf kl sh dk sk) 0 C iX10_bringBack_57 pf_X10_96 rfl rfl rfl (Nat.le_of_ble_eq_true rfl) rfl ?_
  exact J_vret C E iX10_bringBack_60 ⟨rfl, rfl⟩

set_option maxRecDepth 100000 in
set_option maxHeartbeats 4000000 in
theorem c_X10_held {Z : GZ} {l : Launch} {x : Int32}  : Ct Z l yX10_held cX10_held 1 (some .int) (rmK 1) [.int x] [] (fun v w => v = some (.int (hdM x)) ∧ w = []) := by
  refine Ct.ofJ (own := RX10) (nm := "held") (lv0 := [(0, .int x)]) (by decide) rfl rfl (Nat.le_of_ble_eq_true rfl) rfl (fun X hXl C E => ?_)
  subst hXl
  refine J_bipush 6 C iX10_held_0 rfl ?_
  refine J_bipush 18 C iX10_held_2 rfl ?_
  refine J_iload_n C iX10_held_4 rfl rfl ?_
  refine J_imin C iX10_held_5 (tsg_in (i := 1452) (by decide +kernel) rfl) ma_imin_1 ma_i ma_imin_2 (by decide) (Nat.le_of_ble_eq_true rfl) ?_
  refine J_imax C iX10_held_8 (tsg_in (i := 1779) (by decide +kernel) rfl) ma_imax_1 ma_i ma_imax_2 (by decide) (Nat.le_of_ble_eq_true rfl) ?_
  exact J_iret C E iX10_held_11 ⟨rfl, rfl⟩

set_option maxRecDepth 100000 in
set_option maxHeartbeats 4000000 in
theorem c_X10_isAsked {Z : GZ} {l : Launch} {x : Int32}  : Ct Z l yX10_isAsked cX10_isAsked 1 (some .boolean) (rmK 1) [.int x] [] (fun v w => v = some (.int (b2i (askB x))) ∧ w = []) := by
  refine Ct.ofJ (own := RX10) (nm := "isAsked") (lv0 := [(0, .int x)]) (by decide) rfl rfl (Nat.le_of_ble_eq_true rfl) rfl (fun X hXl C E => ?_)
  subst hXl
  refine J_iload_n C iX10_isAsked_0 rfl rfl ?_
  refine J_bipush 100 C iX10_isAsked_1 rfl ?_
  refine J_icmpeq 35 C iX10_isAsked_3 rfl (fun h3 => ?_) (fun h3 => ?_)
  · refine J_iconst 1 C iX10_isAsked_35 rfl ?_
    refine J_goto 40 C iX10_isAsked_36 rfl ?_
    exact J_zret C E iX10_isAsked_40 rfl ⟨by simp [askB, h3, b2i], rfl⟩
  · refine J_iload_n C iX10_isAsked_6 rfl rfl ?_
    refine J_bipush 11 C iX10_isAsked_7 rfl ?_
    refine J_icmpeq 35 C iX10_isAsked_9 rfl (fun h9 => ?_) (fun h9 => ?_)
    · refine J_iconst 1 C iX10_isAsked_35 rfl ?_
      refine J_goto 40 C iX10_isAsked_36 rfl ?_
      exact J_zret C E iX10_isAsked_40 rfl ⟨by simp [askB, h3, h9, b2i], rfl⟩
    · refine J_iload_n C iX10_isAsked_12 rfl rfl ?_
      refine J_bipush 12 C iX10_isAsked_13 rfl ?_
      refine J_bipush 15 C iX10_isAsked_15 rfl ?_
      refine J_cSp (As := [.int x, .int 12, .int 15]) (st := []) C iX10_isAsked_17 lm_X10_76 yc_X10_isIn ys_X10_isIn (c_X10_isIn (q := x) (a := 12) (b := 15)) rfl (rmK_le (by omega) (by decide)) (Nat.le_of_ble_eq_true rfl) ⟨rfl, rfl⟩ ?_
      rintro _ rfl
      refine J_st (.int (b2i (inX x 12 15)) :: []) rfl ?_
      refine J_ifneb 35 C iX10_isAsked_20 rfl (fun h20 => ?_) (fun h20 => ?_)
      · refine J_iconst 1 C iX10_isAsked_35 rfl ?_
        refine J_goto 40 C iX10_isAsked_36 rfl ?_
        exact J_zret C E iX10_isAsked_40 rfl ⟨by simp [askB, h3, h9, h20, b2i], rfl⟩
      · refine J_iload_n C iX10_isAsked_23 rfl rfl ?_
        refine J_bipush 17 C iX10_isAsked_24 rfl ?_
        refine J_icmpeq 35 C iX10_isAsked_26 rfl (fun h26 => ?_) (fun h26 => ?_)
        · refine J_iconst 1 C iX10_isAsked_35 rfl ?_
          refine J_goto 40 C iX10_isAsked_36 rfl ?_
          exact J_zret C E iX10_isAsked_40 rfl ⟨by simp [askB, h3, h9, h20, h26, b2i], rfl⟩
        · refine J_iload_n C iX10_isAsked_29 rfl rfl ?_
          refine J_bipush 18 C iX10_isAsked_30 rfl ?_
          refine J_icmpne 39 C iX10_isAsked_32 rfl (fun h32 => ?_) (fun h32 => ?_)
          · refine J_iconst 0 C iX10_isAsked_39 rfl ?_
            exact J_zret C E iX10_isAsked_40 rfl ⟨by simp [askB, h3, h9, h20, h26, h32, b2i], rfl⟩
          · refine J_iconst 1 C iX10_isAsked_35 rfl ?_
            refine J_goto 40 C iX10_isAsked_36 rfl ?_
            exact J_zret C E iX10_isAsked_40 rfl ⟨by simp [askB, h3, h9, h20, h26, h32, b2i], rfl⟩

set_option maxRecDepth 100000 in
set_option maxHeartbeats 4000000 in
theorem c_X10_reckon_10 {Z : GZ} {l : Launch} {a b : Int32}  : Ct Z l yX10_reckon cX10_reckon 3 (some .int) (rmK 1) [.int 101, .int a, .int b] [] (fun v w => v = some (.int (rcM 10 a b)) ∧ w = []) := by
  refine Ct.ofJ (own := RX10) (nm := "reckon") (lv0 := [(0, .int 101), (1, .int a), (2, .int b)]) (by decide) rfl rfl (Nat.le_of_ble_eq_true rfl) rfl (fun X hXl C E => ?_)
  subst hXl
  refine J_iload_n C iX10_reckon_0 rfl rfl ?_
  refine J_look 108 C iX10_reckon_1 (by decide) rfl rfl ?_
  refine J_iload_n C iX10_reckon_108 rfl rfl ?_
  refine J_iload_n C iX10_reckon_109 rfl rfl ?_
  refine J_iadd C iX10_reckon_110 ?_
  exact J_iret C E iX10_reckon_111 ⟨rfl, rfl⟩

set_option maxRecDepth 100000 in
set_option maxHeartbeats 4000000 in
theorem c_X10_reckon_11 {Z : GZ} {l : Launch} {a b : Int32}  : Ct Z l yX10_reckon cX10_reckon 3 (some .int) (rmK 1) [.int 102, .int a, .int b] [] (fun v w => v = some (.int (rcM 11 a b)) ∧ w = []) := by
  refine Ct.ofJ (own := RX10) (nm := "reckon") (lv0 := [(0, .int 102), (1, .int a), (2, .int b)]) (by decide) rfl rfl (Nat.le_of_ble_eq_true rfl) rfl (fun X hXl C E => ?_)
  subst hXl
  refine J_iload_n C iX10_reckon_0 rfl rfl ?_
  refine J_look 112 C iX10_reckon_1 (by decide) rfl rfl ?_
  refine J_iload_n C iX10_reckon_112 rfl rfl ?_
  refine J_iload_n C iX10_reckon_113 rfl rfl ?_
  refine J_isub C iX10_reckon_114 ?_
  exact J_iret C E iX10_reckon_115 ⟨rfl, rfl⟩

set_option maxRecDepth 100000 in
set_option maxHeartbeats 4000000 in
theorem c_X10_reckon_12 {Z : GZ} {l : Launch} {a b : Int32}  : Ct Z l yX10_reckon cX10_reckon 3 (some .int) (rmK 1) [.int 103, .int a, .int b] [] (fun v w => v = some (.int (rcM 12 a b)) ∧ w = []) := by
  refine Ct.ofJ (own := RX10) (nm := "reckon") (lv0 := [(0, .int 103), (1, .int a), (2, .int b)]) (by decide) rfl rfl (Nat.le_of_ble_eq_true rfl) rfl (fun X hXl C E => ?_)
  subst hXl
  refine J_iload_n C iX10_reckon_0 rfl rfl ?_
  refine J_look 116 C iX10_reckon_1 (by decide) rfl rfl ?_
  refine J_iload_n C iX10_reckon_116 rfl rfl ?_
  refine J_iload_n C iX10_reckon_117 rfl rfl ?_
  refine J_imul C iX10_reckon_118 ?_
  exact J_iret C E iX10_reckon_119 ⟨rfl, rfl⟩

set_option maxRecDepth 100000 in
set_option maxHeartbeats 4000000 in
theorem c_X10_reckon_13 {Z : GZ} {l : Launch} {a b : Int32}  : Ct Z l yX10_reckon cX10_reckon 3 (some .int) (rmK 1) [.int 104, .int a, .int b] [] (fun v w => v = some (.int (rcM 13 a b)) ∧ w = []) := by
  refine Ct.ofJ (own := RX10) (nm := "reckon") (lv0 := [(0, .int 104), (1, .int a), (2, .int b)]) (by decide) rfl rfl (Nat.le_of_ble_eq_true rfl) rfl (fun X hXl C E => ?_)
  subst hXl
  refine J_iload_n C iX10_reckon_0 rfl rfl ?_
  refine J_look 120 C iX10_reckon_1 (by decide) rfl rfl ?_
  refine J_iload_n C iX10_reckon_120 rfl rfl ?_
  refine J_ifne 128 C iX10_reckon_121 rfl (fun h121 => ?_) (fun h121 => ?_)
  · refine J_iload_n C iX10_reckon_128 rfl rfl ?_
    refine J_iload_n C iX10_reckon_129 rfl rfl ?_
    refine J_idiv C iX10_reckon_130 h121 ?_
    exact J_iret C E iX10_reckon_131 ⟨by rw [rcM, if_neg h121], rfl⟩
  · refine J_iconst 0 C iX10_reckon_124 rfl ?_
    refine J_goto 131 C iX10_reckon_125 rfl ?_
    exact J_iret C E iX10_reckon_131 ⟨by rw [rcM, if_pos h121], rfl⟩

set_option maxRecDepth 100000 in
set_option maxHeartbeats 4000000 in
theorem c_X10_reckon_14 {Z : GZ} {l : Launch} {a b : Int32}  : Ct Z l yX10_reckon cX10_reckon 3 (some .int) (rmK 1) [.int 22, .int a, .int b] [] (fun v w => v = some (.int (rcM 14 a b)) ∧ w = []) := by
  refine Ct.ofJ (own := RX10) (nm := "reckon") (lv0 := [(0, .int 22), (1, .int a), (2, .int b)]) (by decide) rfl rfl (Nat.le_of_ble_eq_true rfl) rfl (fun X hXl C E => ?_)
  subst hXl
  refine J_iload_n C iX10_reckon_0 rfl rfl ?_
  refine J_look 132 C iX10_reckon_1 (by decide) rfl rfl ?_
  refine J_iload_n C iX10_reckon_132 rfl rfl ?_
  refine J_iload_n C iX10_reckon_133 rfl rfl ?_
  refine J_imin C iX10_reckon_134 (tsg_in (i := 1452) (by decide +kernel) rfl) ma_imin_1 ma_i ma_imin_2 (by decide) (Nat.le_of_ble_eq_true rfl) ?_
  exact J_iret C E iX10_reckon_137 ⟨rfl, rfl⟩

set_option maxRecDepth 100000 in
set_option maxHeartbeats 4000000 in
theorem c_X10_reckon_15 {Z : GZ} {l : Launch} {a b : Int32}  : Ct Z l yX10_reckon cX10_reckon 3 (some .int) (rmK 1) [.int 23, .int a, .int b] [] (fun v w => v = some (.int (rcM 15 a b)) ∧ w = []) := by
  refine Ct.ofJ (own := RX10) (nm := "reckon") (lv0 := [(0, .int 23), (1, .int a), (2, .int b)]) (by decide) rfl rfl (Nat.le_of_ble_eq_true rfl) rfl (fun X hXl C E => ?_)
  subst hXl
  refine J_iload_n C iX10_reckon_0 rfl rfl ?_
  refine J_look 138 C iX10_reckon_1 (by decide) rfl rfl ?_
  refine J_iload_n C iX10_reckon_138 rfl rfl ?_
  refine J_iload_n C iX10_reckon_139 rfl rfl ?_
  refine J_imax C iX10_reckon_140 (tsg_in (i := 1779) (by decide +kernel) rfl) ma_imax_1 ma_i ma_imax_2 (by decide) (Nat.le_of_ble_eq_true rfl) ?_
  exact J_iret C E iX10_reckon_143 ⟨rfl, rfl⟩

set_option maxRecDepth 100000 in
set_option maxHeartbeats 4000000 in
theorem c_X10_reckon_16 {Z : GZ} {l : Launch} {a b : Int32}  : Ct Z l yX10_reckon cX10_reckon 3 (some .int) (rmK 1) [.int 106, .int a, .int b] [] (fun v w => v = some (.int (rcM 16 a b)) ∧ w = []) := by
  refine Ct.ofJ (own := RX10) (nm := "reckon") (lv0 := [(0, .int 106), (1, .int a), (2, .int b)]) (by decide) rfl rfl (Nat.le_of_ble_eq_true rfl) rfl (fun X hXl C E => ?_)
  subst hXl
  refine J_iload_n C iX10_reckon_0 rfl rfl ?_
  refine J_look 144 C iX10_reckon_1 (by decide) rfl rfl ?_
  refine J_iload_n C iX10_reckon_144 rfl rfl ?_
  refine J_iload_n C iX10_reckon_145 rfl rfl ?_
  refine J_icmpge 153 C iX10_reckon_146 rfl (fun h146 => ?_) (fun h146 => ?_)
  · refine J_iconst 0 C iX10_reckon_153 rfl ?_
    refine J_cSp (As := [.int 0]) (st := []) C iX10_reckon_154 lm_X10_103 yc_X10_one ys_X10_one (c_X10_one (b := false)) rfl (rmK_le (by omega) (by decide)) (Nat.le_of_ble_eq_true rfl) ⟨rfl, rfl⟩ ?_
    rintro _ rfl
    refine J_st (.int (b2i false) :: []) rfl ?_
    exact J_iret C E iX10_reckon_157 ⟨by rw [rcM]; simp [b2i, h146], rfl⟩
  · refine J_iconst 1 C iX10_reckon_149 rfl ?_
    refine J_goto 154 C iX10_reckon_150 rfl ?_
    refine J_cSp (As := [.int 1]) (st := []) C iX10_reckon_154 lm_X10_103 yc_X10_one ys_X10_one (c_X10_one (b := true)) rfl (rmK_le (by omega) (by decide)) (Nat.le_of_ble_eq_true rfl) ⟨rfl, rfl⟩ ?_
    rintro _ rfl
    refine J_st (.int (b2i true) :: []) rfl ?_
    exact J_iret C E iX10_reckon_157 ⟨by rw [rcM]; simp [b2i, h146], rfl⟩

set_option maxRecDepth 100000 in
set_option maxHeartbeats 4000000 in
theorem c_X10_reckon_17 {Z : GZ} {l : Launch} {a b : Int32}  : Ct Z l yX10_reckon cX10_reckon 3 (some .int) (rmK 1) [.int 107, .int a, .int b] [] (fun v w => v = some (.int (rcM 17 a b)) ∧ w = []) := by
  refine Ct.ofJ (own := RX10) (nm := "reckon") (lv0 := [(0, .int 107), (1, .int a), (2, .int b)]) (by decide) rfl rfl (Nat.le_of_ble_eq_true rfl) rfl (fun X hXl C E => ?_)
  subst hXl
  refine J_iload_n C iX10_reckon_0 rfl rfl ?_
  refine J_look 158 C iX10_reckon_1 (by decide) rfl rfl ?_
  refine J_iload_n C iX10_reckon_158 rfl rfl ?_
  refine J_iload_n C iX10_reckon_159 rfl rfl ?_
  refine J_icmple 167 C iX10_reckon_160 rfl (fun h160 => ?_) (fun h160 => ?_)
  · refine J_iconst 0 C iX10_reckon_167 rfl ?_
    refine J_cSp (As := [.int 0]) (st := []) C iX10_reckon_168 lm_X10_103 yc_X10_one ys_X10_one (c_X10_one (b := false)) rfl (rmK_le (by omega) (by decide)) (Nat.le_of_ble_eq_true rfl) ⟨rfl, rfl⟩ ?_
    rintro _ rfl
    refine J_st (.int (b2i false) :: []) rfl ?_
    exact J_iret C E iX10_reckon_171 ⟨by rw [rcM]; simp [b2i, h160], rfl⟩
  · refine J_iconst 1 C iX10_reckon_163 rfl ?_
    refine J_goto 168 C iX10_reckon_164 rfl ?_
    refine J_cSp (As := [.int 1]) (st := []) C iX10_reckon_168 lm_X10_103 yc_X10_one ys_X10_one (c_X10_one (b := true)) rfl (rmK_le (by omega) (by decide)) (Nat.le_of_ble_eq_true rfl) ⟨rfl, rfl⟩ ?_
    rintro _ rfl
    refine J_st (.int (b2i true) :: []) rfl ?_
    exact J_iret C E iX10_reckon_171 ⟨by rw [rcM]; simp [b2i, h160], rfl⟩

set_option maxRecDepth 100000 in
set_option maxHeartbeats 4000000 in
theorem c_X10_reckon_18 {Z : GZ} {l : Launch} {a b : Int32}  : Ct Z l yX10_reckon cX10_reckon 3 (some .int) (rmK 1) [.int 108, .int a, .int b] [] (fun v w => v = some (.int (rcM 18 a b)) ∧ w = []) := by
  refine Ct.ofJ (own := RX10) (nm := "reckon") (lv0 := [(0, .int 108), (1, .int a), (2, .int b)]) (by decide) rfl rfl (Nat.le_of_ble_eq_true rfl) rfl (fun X hXl C E => ?_)
  subst hXl
  refine J_iload_n C iX10_reckon_0 rfl rfl ?_
  refine J_look 172 C iX10_reckon_1 (by decide) rfl rfl ?_
  refine J_iload_n C iX10_reckon_172 rfl rfl ?_
  refine J_iload_n C iX10_reckon_173 rfl rfl ?_
  refine J_icmpne 181 C iX10_reckon_174 rfl (fun h174 => ?_) (fun h174 => ?_)
  · refine J_iconst 0 C iX10_reckon_181 rfl ?_
    refine J_cSp (As := [.int 0]) (st := []) C iX10_reckon_182 lm_X10_103 yc_X10_one ys_X10_one (c_X10_one (b := false)) rfl (rmK_le (by omega) (by decide)) (Nat.le_of_ble_eq_true rfl) ⟨rfl, rfl⟩ ?_
    rintro _ rfl
    refine J_st (.int (b2i false) :: []) rfl ?_
    exact J_iret C E iX10_reckon_185 ⟨by rw [rcM]; simp [b2i, h174], rfl⟩
  · refine J_iconst 1 C iX10_reckon_177 rfl ?_
    refine J_goto 182 C iX10_reckon_178 rfl ?_
    refine J_cSp (As := [.int 1]) (st := []) C iX10_reckon_182 lm_X10_103 yc_X10_one ys_X10_one (c_X10_one (b := true)) rfl (rmK_le (by omega) (by decide)) (Nat.le_of_ble_eq_true rfl) ⟨rfl, rfl⟩ ?_
    rintro _ rfl
    refine J_st (.int (b2i true) :: []) rfl ?_
    exact J_iret C E iX10_reckon_185 ⟨by rw [rcM]; simp [b2i, h174], rfl⟩

set_option maxRecDepth 100000 in
set_option maxHeartbeats 4000000 in
theorem c_X10_reckon_19 {Z : GZ} {l : Launch} {a b : Int32}  : Ct Z l yX10_reckon cX10_reckon 3 (some .int) (rmK 1) [.int 109, .int a, .int b] [] (fun v w => v = some (.int (rcM 19 a b)) ∧ w = []) := by
  refine Ct.ofJ (own := RX10) (nm := "reckon") (lv0 := [(0, .int 109), (1, .int a), (2, .int b)]) (by decide) rfl rfl (Nat.le_of_ble_eq_true rfl) rfl (fun X hXl C E => ?_)
  subst hXl
  refine J_iload_n C iX10_reckon_0 rfl rfl ?_
  refine J_look 186 C iX10_reckon_1 (by decide) rfl rfl ?_
  refine J_iload_n C iX10_reckon_186 rfl rfl ?_
  refine J_iload_n C iX10_reckon_187 rfl rfl ?_
  refine J_icmpgt 195 C iX10_reckon_188 rfl (fun h188 => ?_) (fun h188 => ?_)
  · refine J_iconst 0 C iX10_reckon_195 rfl ?_
    refine J_cSp (As := [.int 0]) (st := []) C iX10_reckon_196 lm_X10_103 yc_X10_one ys_X10_one (c_X10_one (b := false)) rfl (rmK_le (by omega) (by decide)) (Nat.le_of_ble_eq_true rfl) ⟨rfl, rfl⟩ ?_
    rintro _ rfl
    refine J_st (.int (b2i false) :: []) rfl ?_
    exact J_iret C E iX10_reckon_199 ⟨by rw [rcM]; simp [b2i, h188], rfl⟩
  · refine J_iconst 1 C iX10_reckon_191 rfl ?_
    refine J_goto 196 C iX10_reckon_192 rfl ?_
    refine J_cSp (As := [.int 1]) (st := []) C iX10_reckon_196 lm_X10_103 yc_X10_one ys_X10_one (c_X10_one (b := true)) rfl (rmK_le (by omega) (by decide)) (Nat.le_of_ble_eq_true rfl) ⟨rfl, rfl⟩ ?_
    rintro _ rfl
    refine J_st (.int (b2i true) :: []) rfl ?_
    exact J_iret C E iX10_reckon_199 ⟨by rw [rcM]; simp [b2i, h188], rfl⟩

set_option maxRecDepth 100000 in
set_option maxHeartbeats 4000000 in
theorem c_X10_reckon_20 {Z : GZ} {l : Launch} {a b : Int32}  : Ct Z l yX10_reckon cX10_reckon 3 (some .int) (rmK 1) [.int 110, .int a, .int b] [] (fun v w => v = some (.int (rcM 20 a b)) ∧ w = []) := by
  refine Ct.ofJ (own := RX10) (nm := "reckon") (lv0 := [(0, .int 110), (1, .int a), (2, .int b)]) (by decide) rfl rfl (Nat.le_of_ble_eq_true rfl) rfl (fun X hXl C E => ?_)
  subst hXl
  refine J_iload_n C iX10_reckon_0 rfl rfl ?_
  refine J_look 200 C iX10_reckon_1 (by decide) rfl rfl ?_
  refine J_iload_n C iX10_reckon_200 rfl rfl ?_
  refine J_iload_n C iX10_reckon_201 rfl rfl ?_
  refine J_icmplt 209 C iX10_reckon_202 rfl (fun h202 => ?_) (fun h202 => ?_)
  · refine J_iconst 0 C iX10_reckon_209 rfl ?_
    refine J_cSp (As := [.int 0]) (st := []) C iX10_reckon_210 lm_X10_103 yc_X10_one ys_X10_one (c_X10_one (b := false)) rfl (rmK_le (by omega) (by decide)) (Nat.le_of_ble_eq_true rfl) ⟨rfl, rfl⟩ ?_
    rintro _ rfl
    refine J_st (.int (b2i false) :: []) rfl ?_
    exact J_iret C E iX10_reckon_213 ⟨by rw [rcM]; simp [b2i, h202], rfl⟩
  · refine J_iconst 1 C iX10_reckon_205 rfl ?_
    refine J_goto 210 C iX10_reckon_206 rfl ?_
    refine J_cSp (As := [.int 1]) (st := []) C iX10_reckon_210 lm_X10_103 yc_X10_one ys_X10_one (c_X10_one (b := true)) rfl (rmK_le (by omega) (by decide)) (Nat.le_of_ble_eq_true rfl) ⟨rfl, rfl⟩ ?_
    rintro _ rfl
    refine J_st (.int (b2i true) :: []) rfl ?_
    exact J_iret C E iX10_reckon_213 ⟨by rw [rcM]; simp [b2i, h202], rfl⟩

set_option maxRecDepth 100000 in
set_option maxHeartbeats 4000000 in
theorem c_X10_reckon_21 {Z : GZ} {l : Launch} {a b : Int32}  : Ct Z l yX10_reckon cX10_reckon 3 (some .int) (rmK 1) [.int 20, .int a, .int b] [] (fun v w => v = some (.int (rcM 21 a b)) ∧ w = []) := by
  refine Ct.ofJ (own := RX10) (nm := "reckon") (lv0 := [(0, .int 20), (1, .int a), (2, .int b)]) (by decide) rfl rfl (Nat.le_of_ble_eq_true rfl) rfl (fun X hXl C E => ?_)
  subst hXl
  refine J_iload_n C iX10_reckon_0 rfl rfl ?_
  refine J_look 214 C iX10_reckon_1 (by decide) rfl rfl ?_
  refine J_iload_n C iX10_reckon_214 rfl rfl ?_
  refine J_iload_n C iX10_reckon_215 rfl rfl ?_
  refine J_iand C iX10_reckon_216 ?_
  exact J_iret C E iX10_reckon_217 ⟨rfl, rfl⟩

set_option maxRecDepth 100000 in
set_option maxHeartbeats 4000000 in
theorem c_X10_reckon_22 {Z : GZ} {l : Launch} {a b : Int32}  : Ct Z l yX10_reckon cX10_reckon 3 (some .int) (rmK 1) [.int 21, .int a, .int b] [] (fun v w => v = some (.int (rcM 22 a b)) ∧ w = []) := by
  refine Ct.ofJ (own := RX10) (nm := "reckon") (lv0 := [(0, .int 21), (1, .int a), (2, .int b)]) (by decide) rfl rfl (Nat.le_of_ble_eq_true rfl) rfl (fun X hXl C E => ?_)
  subst hXl
  refine J_iload_n C iX10_reckon_0 rfl rfl ?_
  refine J_look 218 C iX10_reckon_1 (by decide) rfl rfl ?_
  refine J_iload_n C iX10_reckon_218 rfl rfl ?_
  refine J_iload_n C iX10_reckon_219 rfl rfl ?_
  refine J_ior C iX10_reckon_220 ?_
  exact J_iret C E iX10_reckon_221 ⟨rfl, rfl⟩

set_option maxRecDepth 100000 in
set_option maxHeartbeats 4000000 in
theorem c_X10_ask_0 {Z : GZ} {l : Launch} {mo pl : Nat → Nat} {N : Nat} {th sz ea tk dp lr dy ca ls mn : Int32} {kn : Bool} {hn va : Nat → Int64} {ha hh dz wh bg en od wi al tp kd fr me wo pc ht fs la kh kf kl sh dk sk : Nat → Int32} (hN : N ≤ 12) (ok : kn = true → LkOk N pc ht fs la sh dk) {q r : Int32}  : Ct Z l yX10_ask cX10_ask 4 (some .int) (rmK 7) [.ref (mo 0), .int 100, .int q, .int r] (wMd Z mo pl th sz ea tk dp lr dy ca kn tp kd fr me va wo pc ht fs la kh kf kl sh dk sk ++ wPl Z pl (nI N) ls mn hn ha hh dz wh bg en od wi al) (fun v w => ∃ kn2 sh2 dk2, v = some (.int (lfM N dy pc ht fs la 0 q r)) ∧ w = (wMd Z mo pl th sz ea tk dp lr dy ca kn2 tp kd fr me va wo pc ht fs la kh kf kl sh2 dk2 sk ++ wPl Z pl (nI N) ls mn hn ha hh dz wh bg en od wi al) ∧ (kn2 = true → LkOk N pc ht fs la sh2 dk2)) := by
  refine Ct.ofJ (own := RX10) (nm := "ask") (lv0 := [(0, .ref (mo 0)), (1, .int 100), (2, .int q), (3, .int r)]) (by decide) rfl rfl (Nat.le_of_ble_eq_true rfl) rfl (fun X hXl C E => ?_)
  subst hXl
  refine J_iload_n C iX10_ask_0 rfl rfl ?_
  refine J_look 68 C iX10_ask_1 (by decide) rfl rfl ?_
  refine J_iload_n C iX10_ask_68 rfl rfl ?_
  exact J_iret C E iX10_ask_69 ⟨kn, sh, dk, rfl, rfl, ok⟩

set_option maxRecDepth 100000 in
set_option maxHeartbeats 4000000 in
theorem c_X10_ask_1 {Z : GZ} {l : Launch} {mo pl : Nat → Nat} {N : Nat} {th sz ea tk dp lr dy ca ls mn : Int32} {kn : Bool} {hn va : Nat → Int64} {ha hh dz wh bg en od wi al tp kd fr me wo pc ht fs la kh kf kl sh dk sk : Nat → Int32} (hN : N ≤ 12) (ok : kn = true → LkOk N pc ht fs la sh dk) {q r : Int32}  : Ct Z l yX10_ask cX10_ask 4 (some .int) (rmK 7) [.ref (mo 0), .int 11, .int q, .int r] (wMd Z mo pl th sz ea tk dp lr dy ca kn tp kd fr me va wo pc ht fs la kh kf kl sh dk sk ++ wPl Z pl (nI N) ls mn hn ha hh dz wh bg en od wi al) (fun v w => ∃ kn2 sh2 dk2, v = some (.int (lfM N dy pc ht fs la 1 q r)) ∧ w = (wMd Z mo pl th sz ea tk dp lr dy ca kn2 tp kd fr me va wo pc ht fs la kh kf kl sh2 dk2 sk ++ wPl Z pl (nI N) ls mn hn ha hh dz wh bg en od wi al) ∧ (kn2 = true → LkOk N pc ht fs la sh2 dk2)) := by
  refine Ct.ofJ (own := RX10) (nm := "ask") (lv0 := [(0, .ref (mo 0)), (1, .int 11), (2, .int q), (3, .int r)]) (by decide) rfl rfl (Nat.le_of_ble_eq_true rfl) rfl (fun X hXl C E => ?_)
  subst hXl
  refine J_iload_n C iX10_ask_0 rfl rfl ?_
  refine J_look 70 C iX10_ask_1 (by decide) rfl rfl ?_
  refine J_aload_n C iX10_ask_70 rfl rfl ?_
  refine J_get (.int dy) 0 C iX10_ask_71 gf_X10_127 rfl rfl ?_
  exact J_iret C E iX10_ask_74 ⟨kn, sh, dk, rfl, rfl, ok⟩

set_option maxRecDepth 100000 in
set_option maxHeartbeats 4000000 in
theorem c_X10_ask_2 {Z : GZ} {l : Launch} {mo pl : Nat → Nat} {N : Nat} {th sz ea tk dp lr dy ca ls mn : Int32} {kn : Bool} {hn va : Nat → Int64} {ha hh dz wh bg en od wi al tp kd fr me wo pc ht fs la kh kf kl sh dk sk : Nat → Int32} (hN : N ≤ 12) (ok : kn = true → LkOk N pc ht fs la sh dk) {q r : Int32}  : Ct Z l yX10_ask cX10_ask 4 (some .int) (rmK 7) [.ref (mo 0), .int 15, .int q, .int r] (wMd Z mo pl th sz ea tk dp lr dy ca kn tp kd fr me va wo pc ht fs la kh kf kl sh dk sk ++ wPl Z pl (nI N) ls mn hn ha hh dz wh bg en od wi al) (fun v w => ∃ kn2 sh2 dk2, v = some (.int (lfM N dy pc ht fs la 2 q r)) ∧ w = (wMd Z mo pl th sz ea tk dp lr dy ca kn2 tp kd fr me va wo pc ht fs la kh kf kl sh2 dk2 sk ++ wPl Z pl (nI N) ls mn hn ha hh dz wh bg en od wi al) ∧ (kn2 = true → LkOk N pc ht fs la sh2 dk2)) := by
  refine Ct.ofJ (own := RX10) (nm := "ask") (lv0 := [(0, .ref (mo 0)), (1, .int 15), (2, .int q), (3, .int r)]) (by decide) rfl rfl (Nat.le_of_ble_eq_true rfl) rfl (fun X hXl C E => ?_)
  subst hXl
  refine J_iload_n C iX10_ask_0 rfl rfl ?_
  refine J_look 75 C iX10_ask_1 (by decide) rfl rfl ?_
  refine J_aload_n C iX10_ask_75 rfl rfl ?_
  refine J_get (.ref (pl 0)) 0 C iX10_ask_76 gf_X10_20 rfl rfl ?_
  refine J_get (.int (nI N)) 17 C iX10_ask_79 gf_X10_73 rfl rfl ?_
  refine J_ifne 89 C iX10_ask_82 rfl (fun h82 => ?_) (fun h82 => ?_)
  · have hs82 : ¬ N = 0 := fun e => h82 (by rw [e]; rfl)
    refine J_aload_n C iX10_ask_89 rfl rfl ?_
    refine J_aload_n C iX10_ask_90 rfl rfl ?_
    refine J_cVb (As := []) (st := .ref (mo 0) :: []) (rc2 := (rmK 7).cells) (rs2 := (rmK 7).slots) C iX10_ask_91 lm_X10_185 yc_X10_worstOf yv_X10_worstOf (c_X10_worstOf hN ok) (q0 := 0) rfl rfl rfl [] [] rfl rfl (rmK_le (by omega) (by decide)) (Nat.le_of_ble_eq_true rfl) rfl rfl ?_
    rintro _ _ ⟨kn_1, sh_0, dk_0, rfl, rfl, ok0⟩
    refine J_st (.int (wrM (lsM N pc ht fs la) N) :: .ref (mo 0) :: []) rfl ?_
    refine J_ws (wMd Z mo pl th sz ea tk dp lr dy ca kn_1 tp kd fr me va wo pc ht fs la kh kf kl sh_0 dk_0 sk ++ wPl Z pl (nI N) ls mn hn ha hh dz wh bg en od wi al) rfl ?_
    rw [wrM_s (f := (lsM N pc ht fs la)) hs82, show amx (lsM N pc ht fs la) N = amx (lsM N pc ht fs la) N from rfl]
    have hax := amx_lt' (f := (lsM N pc ht fs la)) (k := N) (by omega)
    refine J_cVb (As := [.int (nI (amx (lsM N pc ht fs la) N))]) (st := []) (rc2 := (rmK 7).cells) (rs2 := (rmK 7).slots) C iX10_ask_94 lm_X10_118 yc_X10_lostBy yv_X10_lostBy (c_X10_lostBy hN ok0 (by omega)) (q0 := 0) rfl rfl rfl [] [] rfl rfl (rmK_le (by omega) (by decide)) (Nat.le_of_ble_eq_true rfl) rfl rfl ?_
    rintro _ _ ⟨sh_1, dk_1, rfl, rfl, okk1⟩
    refine J_st (.int (lsM N pc ht fs la (amx (lsM N pc ht fs la) N)) :: []) rfl ?_
    refine J_ws (wMd Z mo pl th sz ea tk dp lr dy ca true tp kd fr me va wo pc ht fs la kh kf kl sh_1 dk_1 sk ++ wPl Z pl (nI N) ls mn hn ha hh dz wh bg en od wi al) rfl ?_
    exact J_iret C E iX10_ask_97 ⟨true, sh_1, dk_1, by rw [lfM, mxM, if_neg hs82], rfl, (fun _ => okk1)⟩
  · have hs82 : N = 0 := (nI_eq (a := N) (b := 0) (by omega) (by decide)).mp h82
    refine J_iconst 0 C iX10_ask_85 rfl ?_
    refine J_goto 97 C iX10_ask_86 rfl ?_
    exact J_iret C E iX10_ask_97 ⟨kn, sh, dk, by rw [lfM, mxM, if_pos hs82], rfl, ok⟩

set_option maxRecDepth 100000 in
set_option maxHeartbeats 4000000 in
theorem c_X10_ask_3 {Z : GZ} {l : Launch} {mo pl : Nat → Nat} {N : Nat} {th sz ea tk dp lr dy ca ls mn : Int32} {kn : Bool} {hn va : Nat → Int64} {ha hh dz wh bg en od wi al tp kd fr me wo pc ht fs la kh kf kl sh dk sk : Nat → Int32} (hN : N ≤ 12) (ok : kn = true → LkOk N pc ht fs la sh dk) {i : Nat} {r : Int32} (hi : i < N)  : Ct Z l yX10_ask cX10_ask 4 (some .int) (rmK 7) [.ref (mo 0), .int 12, .int (nI i), .int r] (wMd Z mo pl th sz ea tk dp lr dy ca kn tp kd fr me va wo pc ht fs la kh kf kl sh dk sk ++ wPl Z pl (nI N) ls mn hn ha hh dz wh bg en od wi al) (fun v w => ∃ kn2 sh2 dk2, v = some (.int (lfM N dy pc ht fs la 3 (nI i) r)) ∧ w = (wMd Z mo pl th sz ea tk dp lr dy ca kn2 tp kd fr me va wo pc ht fs la kh kf kl sh2 dk2 sk ++ wPl Z pl (nI N) ls mn hn ha hh dz wh bg en od wi al) ∧ (kn2 = true → LkOk N pc ht fs la sh2 dk2)) := by
  refine Ct.ofJ (own := RX10) (nm := "ask") (lv0 := [(0, .ref (mo 0)), (1, .int 12), (2, .int (nI i)), (3, .int r)]) (by decide) rfl rfl (Nat.le_of_ble_eq_true rfl) rfl (fun X hXl C E => ?_)
  subst hXl
  refine J_iload_n C iX10_ask_0 rfl rfl ?_
  refine J_look 98 C iX10_ask_1 (by decide) rfl rfl ?_
  refine J_aload_n C iX10_ask_98 rfl rfl ?_
  refine J_iload_n C iX10_ask_99 rfl rfl ?_
  refine J_cVb (As := [.int (nI i)]) (st := []) (rc2 := (rmK 7).cells) (rs2 := (rmK 7).slots) C iX10_ask_100 lm_X10_118 yc_X10_lostBy yv_X10_lostBy (c_X10_lostBy hN ok (by omega)) (q0 := 0) rfl rfl rfl [] [] rfl rfl (rmK_le (by omega) (by decide)) (Nat.le_of_ble_eq_true rfl) rfl rfl ?_
  rintro _ _ ⟨sh_1, dk_1, rfl, rfl, okk1⟩
  refine J_st (.int (lsM N pc ht fs la i) :: []) rfl ?_
  refine J_ws (wMd Z mo pl th sz ea tk dp lr dy ca true tp kd fr me va wo pc ht fs la kh kf kl sh_1 dk_1 sk ++ wPl Z pl (nI N) ls mn hn ha hh dz wh bg en od wi al) rfl ?_
  exact J_iret C E iX10_ask_103 ⟨true, sh_1, dk_1, by rw [lfM, nI_clamp (by omega)], rfl, (fun _ => okk1)⟩

set_option maxRecDepth 100000 in
set_option maxHeartbeats 4000000 in
theorem c_X10_ask_4 {Z : GZ} {l : Launch} {mo pl : Nat → Nat} {N : Nat} {th sz ea tk dp lr dy ca ls mn : Int32} {kn : Bool} {hn va : Nat → Int64} {ha hh dz wh bg en od wi al tp kd fr me wo pc ht fs la kh kf kl sh dk sk : Nat → Int32} (hN : N ≤ 12) (ok : kn = true → LkOk N pc ht fs la sh dk) {i : Nat} {r : Int32} (hi : i < N)  : Ct Z l yX10_ask cX10_ask 4 (some .int) (rmK 7) [.ref (mo 0), .int 13, .int (nI i), .int r] (wMd Z mo pl th sz ea tk dp lr dy ca kn tp kd fr me va wo pc ht fs la kh kf kl sh dk sk ++ wPl Z pl (nI N) ls mn hn ha hh dz wh bg en od wi al) (fun v w => ∃ kn2 sh2 dk2, v = some (.int (lfM N dy pc ht fs la 4 (nI i) r)) ∧ w = (wMd Z mo pl th sz ea tk dp lr dy ca kn2 tp kd fr me va wo pc ht fs la kh kf kl sh2 dk2 sk ++ wPl Z pl (nI N) ls mn hn ha hh dz wh bg en od wi al) ∧ (kn2 = true → LkOk N pc ht fs la sh2 dk2)) := by
  refine Ct.ofJ (own := RX10) (nm := "ask") (lv0 := [(0, .ref (mo 0)), (1, .int 13), (2, .int (nI i)), (3, .int r)]) (by decide) rfl rfl (Nat.le_of_ble_eq_true rfl) rfl (fun X hXl C E => ?_)
  subst hXl
  refine J_iload_n C iX10_ask_0 rfl rfl ?_
  refine J_look 104 C iX10_ask_1 (by decide) rfl rfl ?_
  refine J_aload_n C iX10_ask_104 rfl rfl ?_
  refine J_iload_n C iX10_ask_105 rfl rfl ?_
  refine J_cVb (As := [.int (nI i)]) (st := []) (rc2 := (rmK 7).cells) (rs2 := (rmK 7).slots) C iX10_ask_106 lm_X10_189 yc_X10_castOf yv_X10_castOf (c_X10_castOf hN ok (by omega)) (q0 := 0) rfl rfl rfl [] [] rfl rfl (rmK_le (by omega) (by decide)) (Nat.le_of_ble_eq_true rfl) rfl rfl ?_
  rintro _ _ ⟨kn_1, sh_1, dk_1, rfl, rfl, okk1⟩
  refine J_st (.int (ctM N pc ht fs la i) :: []) rfl ?_
  refine J_ws (wMd Z mo pl th sz ea tk dp lr dy ca kn_1 tp kd fr me va wo pc ht fs la kh kf kl sh_1 dk_1 sk ++ wPl Z pl (nI N) ls mn hn ha hh dz wh bg en od wi al) rfl ?_
  exact J_iret C E iX10_ask_109 ⟨kn_1, sh_1, dk_1, by rw [lfM, nI_clamp (by omega)], rfl, okk1⟩

set_option maxRecDepth 100000 in
set_option maxHeartbeats 4000000 in
theorem c_X10_ask_5 {Z : GZ} {l : Launch} {mo pl : Nat → Nat} {N : Nat} {th sz ea tk dp lr dy ca ls mn : Int32} {kn : Bool} {hn va : Nat → Int64} {ha hh dz wh bg en od wi al tp kd fr me wo pc ht fs la kh kf kl sh dk sk : Nat → Int32} (hN : N ≤ 12) (ok : kn = true → LkOk N pc ht fs la sh dk) {i : Nat} {r : Int32} (hi : i < N)  : Ct Z l yX10_ask cX10_ask 4 (some .int) (rmK 7) [.ref (mo 0), .int 14, .int (nI i), .int r] (wMd Z mo pl th sz ea tk dp lr dy ca kn tp kd fr me va wo pc ht fs la kh kf kl sh dk sk ++ wPl Z pl (nI N) ls mn hn ha hh dz wh bg en od wi al) (fun v w => ∃ kn2 sh2 dk2, v = some (.int (lfM N dy pc ht fs la 5 (nI i) r)) ∧ w = (wMd Z mo pl th sz ea tk dp lr dy ca kn2 tp kd fr me va wo pc ht fs la kh kf kl sh2 dk2 sk ++ wPl Z pl (nI N) ls mn hn ha hh dz wh bg en od wi al) ∧ (kn2 = true → LkOk N pc ht fs la sh2 dk2)) := by
  refine Ct.ofJ (own := RX10) (nm := "ask") (lv0 := [(0, .ref (mo 0)), (1, .int 14), (2, .int (nI i)), (3, .int r)]) (by decide) rfl rfl (Nat.le_of_ble_eq_true rfl) rfl (fun X hXl C E => ?_)
  subst hXl
  refine J_iload_n C iX10_ask_0 rfl rfl ?_
  refine J_look 110 C iX10_ask_1 (by decide) rfl rfl ?_
  refine J_aload_n C iX10_ask_110 rfl rfl ?_
  refine J_get (.ref (mo 8)) 0 C iX10_ask_111 gf_X10_43 rfl rfl ?_
  refine J_iload_n C iX10_ask_114 rfl rfl ?_
  refine J_iald 8 C iX10_ask_115 rfl (vp_in_nI (n := i) (by omega) (by decide)) ?_
  rw [nI_clamp (n := i) (by omega)]
  exact J_iret C E iX10_ask_116 ⟨kn, sh, dk, by rw [lfM, nI_clamp (by omega)], rfl, ok⟩

set_option maxRecDepth 100000 in
set_option maxHeartbeats 4000000 in
theorem c_X10_ask_6 {Z : GZ} {l : Launch} {mo pl : Nat → Nat} {N : Nat} {th sz ea tk dp lr dy ca ls mn : Int32} {kn : Bool} {hn va : Nat → Int64} {ha hh dz wh bg en od wi al tp kd fr me wo pc ht fs la kh kf kl sh dk sk : Nat → Int32} (hN : N ≤ 12) (ok : kn = true → LkOk N pc ht fs la sh dk) {i i2 : Nat} (hi : i < N) (hi2 : i2 < N)  : Ct Z l yX10_ask cX10_ask 4 (some .int) (rmK 7) [.ref (mo 0), .int 17, .int (nI i), .int (nI i2)] (wMd Z mo pl th sz ea tk dp lr dy ca kn tp kd fr me va wo pc ht fs la kh kf kl sh dk sk ++ wPl Z pl (nI N) ls mn hn ha hh dz wh bg en od wi al) (fun v w => ∃ kn2 sh2 dk2, v = some (.int (lfM N dy pc ht fs la 6 (nI i) (nI i2))) ∧ w = (wMd Z mo pl th sz ea tk dp lr dy ca kn2 tp kd fr me va wo pc ht fs la kh kf kl sh2 dk2 sk ++ wPl Z pl (nI N) ls mn hn ha hh dz wh bg en od wi al) ∧ (kn2 = true → LkOk N pc ht fs la sh2 dk2)) := by
  refine Ct.ofJ (own := RX10) (nm := "ask") (lv0 := [(0, .ref (mo 0)), (1, .int 17), (2, .int (nI i)), (3, .int (nI i2))]) (by decide) rfl rfl (Nat.le_of_ble_eq_true rfl) rfl (fun X hXl C E => ?_)
  subst hXl
  refine J_iload_n C iX10_ask_0 rfl rfl ?_
  refine J_look 117 C iX10_ask_1 (by decide) rfl rfl ?_
  refine J_aload_n C iX10_ask_117 rfl rfl ?_
  refine J_iload_n C iX10_ask_118 rfl rfl ?_
  refine J_iload_n C iX10_ask_119 rfl rfl ?_
  refine J_cVb (As := [.int (nI i2), .int (nI i)]) (st := []) (rc2 := (rmK 7).cells) (rs2 := (rmK 7).slots) C iX10_ask_120 lm_X10_115 yc_X10_lostTo yv_X10_lostTo (c_X10_lostTo hN ok (by omega) (by omega)) (q0 := 0) rfl rfl rfl [] [] rfl rfl (rmK_le (by omega) (by decide)) (Nat.le_of_ble_eq_true rfl) rfl rfl ?_
  rintro _ _ ⟨sh_1, dk_1, rfl, rfl, okk1⟩
  refine J_st (.int (bitC (lkM pc ht fs la i2 i)) :: []) rfl ?_
  refine J_ws (wMd Z mo pl th sz ea tk dp lr dy ca true tp kd fr me va wo pc ht fs la kh kf kl sh_1 dk_1 sk ++ wPl Z pl (nI N) ls mn hn ha hh dz wh bg en od wi al) rfl ?_
  refine J_ifle 130 C iX10_ask_123 rfl (fun h123 => ?_) (fun h123 => ?_)
  · refine J_iconst 0 C iX10_ask_130 rfl ?_
    refine J_cSp (As := [.int 0]) (st := []) C iX10_ask_131 lm_X10_103 yc_X10_one ys_X10_one (c_X10_one (b := false)) rfl (rmK_le (by omega) (by decide)) (Nat.le_of_ble_eq_true rfl) ⟨rfl, rfl⟩ ?_
    rintro _ rfl
    refine J_st (.int (b2i false) :: []) rfl ?_
    exact J_iret C E iX10_ask_134 ⟨true, sh_1, dk_1, by rw [lfM, nI_clamp (by omega), nI_clamp (by omega), decide_eq_false (Int32.not_lt.mpr h123)], rfl, (fun _ => okk1)⟩
  · refine J_iconst 1 C iX10_ask_126 rfl ?_
    refine J_goto 131 C iX10_ask_127 rfl ?_
    refine J_cSp (As := [.int 1]) (st := []) C iX10_ask_131 lm_X10_103 yc_X10_one ys_X10_one (c_X10_one (b := true)) rfl (rmK_le (by omega) (by decide)) (Nat.le_of_ble_eq_true rfl) ⟨rfl, rfl⟩ ?_
    rintro _ rfl
    refine J_st (.int (b2i true) :: []) rfl ?_
    exact J_iret C E iX10_ask_134 ⟨true, sh_1, dk_1, by rw [lfM, nI_clamp (by omega), nI_clamp (by omega), decide_eq_true (Int32.not_le.mp h123)], rfl, (fun _ => okk1)⟩

set_option maxRecDepth 100000 in
set_option maxHeartbeats 4000000 in
theorem c_X10_ask_7 {Z : GZ} {l : Launch} {mo pl : Nat → Nat} {N : Nat} {th sz ea tk dp lr dy ca ls mn : Int32} {kn : Bool} {hn va : Nat → Int64} {ha hh dz wh bg en od wi al tp kd fr me wo pc ht fs la kh kf kl sh dk sk : Nat → Int32} (hN : N ≤ 12) (ok : kn = true → LkOk N pc ht fs la sh dk) {i : Nat} {r : Int32} (hi : i < N)  : Ct Z l yX10_ask cX10_ask 4 (some .int) (rmK 7) [.ref (mo 0), .int 18, .int (nI i), .int r] (wMd Z mo pl th sz ea tk dp lr dy ca kn tp kd fr me va wo pc ht fs la kh kf kl sh dk sk ++ wPl Z pl (nI N) ls mn hn ha hh dz wh bg en od wi al) (fun v w => ∃ kn2 sh2 dk2, v = some (.int (lfM N dy pc ht fs la 7 (nI i) r)) ∧ w = (wMd Z mo pl th sz ea tk dp lr dy ca kn2 tp kd fr me va wo pc ht fs la kh kf kl sh2 dk2 sk ++ wPl Z pl (nI N) ls mn hn ha hh dz wh bg en od wi al) ∧ (kn2 = true → LkOk N pc ht fs la sh2 dk2)) := by
  refine Ct.ofJ (own := RX10) (nm := "ask") (lv0 := [(0, .ref (mo 0)), (1, .int 18), (2, .int (nI i)), (3, .int r)]) (by decide) rfl rfl (Nat.le_of_ble_eq_true rfl) rfl (fun X hXl C E => ?_)
  subst hXl
  refine J_iload_n C iX10_ask_0 rfl rfl ?_
  refine J_look 135 C iX10_ask_1 (by decide) rfl rfl ?_
  refine J_aload_n C iX10_ask_135 rfl rfl ?_
  refine J_iload_n C iX10_ask_136 rfl rfl ?_
  refine J_cVb (As := [.int (nI i)]) (st := []) (rc2 := (rmK 7).cells) (rs2 := (rmK 7).slots) C iX10_ask_137 lm_X10_118 yc_X10_lostBy yv_X10_lostBy (c_X10_lostBy hN ok (by omega)) (q0 := 0) rfl rfl rfl [] [] rfl rfl (rmK_le (by omega) (by decide)) (Nat.le_of_ble_eq_true rfl) rfl rfl ?_
  rintro _ _ ⟨sh_1, dk_1, rfl, rfl, okk1⟩
  refine J_st (.int (lsM N pc ht fs la i) :: []) rfl ?_
  refine J_ws (wMd Z mo pl th sz ea tk dp lr dy ca true tp kd fr me va wo pc ht fs la kh kf kl sh_1 dk_1 sk ++ wPl Z pl (nI N) ls mn hn ha hh dz wh bg en od wi al) rfl ?_
  refine J_ifle 147 C iX10_ask_140 rfl (fun h140 => ?_) (fun h140 => ?_)
  · refine J_iconst 0 C iX10_ask_147 rfl ?_
    refine J_cSp (As := [.int 0]) (st := []) C iX10_ask_148 lm_X10_103 yc_X10_one ys_X10_one (c_X10_one (b := false)) rfl (rmK_le (by omega) (by decide)) (Nat.le_of_ble_eq_true rfl) ⟨rfl, rfl⟩ ?_
    rintro _ rfl
    refine J_st (.int (b2i false) :: []) rfl ?_
    exact J_iret C E iX10_ask_151 ⟨true, sh_1, dk_1, by rw [show lfM N dy pc ht fs la 7 (nI i) r = b2i (decide (0 < lsM N pc ht fs la (nI i).toNatClampNeg)) from rfl, nI_clamp (by omega), decide_eq_false (Int32.not_lt.mpr h140)], rfl, (fun _ => okk1)⟩
  · refine J_iconst 1 C iX10_ask_143 rfl ?_
    refine J_goto 148 C iX10_ask_144 rfl ?_
    refine J_cSp (As := [.int 1]) (st := []) C iX10_ask_148 lm_X10_103 yc_X10_one ys_X10_one (c_X10_one (b := true)) rfl (rmK_le (by omega) (by decide)) (Nat.le_of_ble_eq_true rfl) ⟨rfl, rfl⟩ ?_
    rintro _ rfl
    refine J_st (.int (b2i true) :: []) rfl ?_
    exact J_iret C E iX10_ask_151 ⟨true, sh_1, dk_1, by rw [show lfM N dy pc ht fs la 7 (nI i) r = b2i (decide (0 < lsM N pc ht fs la (nI i).toNatClampNeg)) from rfl, nI_clamp (by omega), decide_eq_true (Int32.not_le.mp h140)], rfl, (fun _ => okk1)⟩

