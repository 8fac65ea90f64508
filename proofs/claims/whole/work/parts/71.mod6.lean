set_option maxRecDepth 100000 in
set_option maxHeartbeats 4000000 in
theorem c_X10_castOf {Z : GZ} {l : Launch} {mo pl : Nat → Nat} {N : Nat} {th sz ea tk dp lr dy ca ls mn : Int32} {kn : Bool} {hn va : Nat → Int64} {ha hh dz wh bg en od wi al tp kd fr me wo pc ht fs la kh kf kl sh dk sk : Nat → Int32} {j : Nat} (hN : N ≤ 12) (ok : kn = true → LkOk N pc ht fs la sh dk) (hj : j < N)  : Ct Z l yX10_castOf cX10_castOf 4 (some .int) (rmK 6) [.ref (mo 0), .int (nI j)] (wMd Z mo pl th sz ea tk dp lr dy ca kn tp kd fr me va wo pc ht fs la kh kf kl sh dk sk ++ wPl Z pl (nI N) ls mn hn ha hh dz wh bg en od wi al) (fun v w => ∃ kn2 sh2 dk2, v = some (.int (ctM N pc ht fs la j)) ∧ w = (wMd Z mo pl th sz ea tk dp lr dy ca kn2 tp kd fr me va wo pc ht fs la kh kf kl sh2 dk2 sk ++ wPl Z pl (nI N) ls mn hn ha hh dz wh bg en od wi al) ∧ (kn2 = true → LkOk N pc ht fs la sh2 dk2)) := by
  refine Ct.ofJ (own := RX10) (nm := "castOf") (lv0 := [(0, .ref (mo 0)), (1, .int (nI j))]) (by decide) rfl rfl (Nat.le_of_ble_eq_true rfl) rfl (fun X hXl C E => ?_)
  subst hXl
  refine J_iconst 0 C iX10_castOf_0 rfl ?_
  refine J_istore_n [(2, .int 0), (0, .ref (mo 0)), (1, .int (nI j))] C iX10_castOf_1 rfl (by decide) rfl ?_
  refine J_iconst 0 C iX10_castOf_2 rfl ?_
  refine J_istore_n [(3, .int 0), (2, .int 0), (0, .ref (mo 0)), (1, .int (nI j))] C iX10_castOf_3 rfl (by decide) rfl ?_
  refine J_lvm [(2, .int 0), (3, .int 0), (1, .int (nI j)), (0, .ref (mo 0))] (by rfl) ?_
  refine J_forI (σ := Bool × (Nat → Int32) × (Nat → Int32)) (fun k q => [(2, .int (sumN (fun a => bitC (lkM pc ht fs la a j)) k)), (3, .int (nI k)), (1, .int (nI j)), (0, .ref (mo 0))]) (fun k q => (wMd Z mo pl th sz ea tk dp lr dy ca q.1 tp kd fr me va wo pc ht fs la kh kf kl q.2.1 q.2.2 sk ++ wPl Z pl (nI N) ls mn hn ha hh dz wh bg en od wi al)) (fun k q => q.1 = true → LkOk N pc ht fs la q.2.1 q.2.2) N 0 (kn, sh, dk) (by omega) ok ?_ ?_
  · rintro ⟨kn5, sh5, dk5⟩ hI
    dsimp only at hI ⊢
    refine J_iload_n C iX10_castOf_4 rfl rfl ?_
    refine J_aload_n C iX10_castOf_5 rfl rfl ?_
    refine J_get (.ref (pl 0)) 0 C iX10_castOf_6 gf_X10_20 rfl rfl ?_
    refine J_get (.int (nI N)) 17 C iX10_castOf_9 gf_X10_73 rfl rfl ?_
    refine J_icmpge 30 C iX10_castOf_12 rfl (fun h12 => ?_) (fun h12 => absurd (nI_le (Nat.le_refl N) (by omega)) h12)
    refine J_iload_n C iX10_castOf_30 rfl rfl ?_
    exact J_iret C E iX10_castOf_31 ⟨kn5, sh5, dk5, rfl, rfl, hI⟩
  · rintro k ⟨kn5, sh5, dk5⟩ hk0 hk hI ih
    dsimp only at hI ⊢
    refine J_iload_n C iX10_castOf_4 rfl rfl ?_
    refine J_aload_n C iX10_castOf_5 rfl rfl ?_
    refine J_get (.ref (pl 0)) 0 C iX10_castOf_6 gf_X10_20 rfl rfl ?_
    refine J_get (.int (nI N)) 17 C iX10_castOf_9 gf_X10_73 rfl rfl ?_
    refine J_icmpge 30 C iX10_castOf_12 rfl (fun h12 => absurd h12 (nI_ge hk (by omega))) (fun h12 => ?_)
    refine J_iload_n C iX10_castOf_15 rfl rfl ?_
    refine J_aload_n C iX10_castOf_16 rfl rfl ?_
    refine J_iload_n C iX10_castOf_17 rfl rfl ?_
    refine J_iload_n C iX10_castOf_18 rfl rfl ?_
    refine J_cVb (As := [.int (nI k), .int (nI j)]) (st := .int (sumN (fun a => bitC (lkM pc ht fs la a j)) k) :: []) (rc2 := (rmK 6).cells) (rs2 := (rmK 6).slots) C iX10_castOf_19 lm_X10_115 yc_X10_lostTo yv_X10_lostTo (c_X10_lostTo hN hI (by omega) (by omega)) (q0 := 0) rfl rfl rfl [] [] rfl rfl (rmK_le (by omega) (by decide)) (Nat.le_of_ble_eq_true rfl) rfl rfl ?_
    rintro _ _ ⟨sh_1, dk_1, rfl, rfl, okk1⟩
    refine J_st (.int (bitC (lkM pc ht fs la k j)) :: .int (sumN (fun a => bitC (lkM pc ht fs la a j)) k) :: []) rfl ?_
    refine J_ws (wMd Z mo pl th sz ea tk dp lr dy ca true tp kd fr me va wo pc ht fs la kh kf kl sh_1 dk_1 sk ++ wPl Z pl (nI N) ls mn hn ha hh dz wh bg en od wi al) rfl ?_
    refine J_iadd C iX10_castOf_22 ?_
    refine J_istore_n [(2, .int ((sumN (fun a => bitC (lkM pc ht fs la a j)) k) + (bitC (lkM pc ht fs la k j)))), (3, .int (nI k)), (1, .int (nI j)), (0, .ref (mo 0))] C iX10_castOf_23 rfl (by decide) rfl ?_
    refine J_iinc ((nI k) + 1) [(3, .int ((nI k) + 1)), (2, .int ((sumN (fun a => bitC (lkM pc ht fs la a j)) k) + (bitC (lkM pc ht fs la k j)))), (1, .int (nI j)), (0, .ref (mo 0))] C iX10_castOf_24 rfl rfl (by decide) rfl ?_
    rw [show (nI k) + 1 = nI (k + 1) from nI_add _ _]
    refine J_goto 4 C iX10_castOf_27 rfl ?_
    refine J_lvm [(2, .int ((sumN (fun a => bitC (lkM pc ht fs la a j)) k) + (bitC (lkM pc ht fs la k j)))), (3, .int (nI (k + 1))), (1, .int (nI j)), (0, .ref (mo 0))] rfl ?_
    exact ih (true, sh_1, dk_1) (fun _ => okk1)

set_option maxRecDepth 100000 in
set_option maxHeartbeats 4000000 in
theorem c_X10_allLost {Z : GZ} {l : Launch} {mo pl : Nat → Nat} {N : Nat} {th sz ea tk dp lr dy ca ls mn : Int32} {kn : Bool} {hn va : Nat → Int64} {ha hh dz wh bg en od wi al tp kd fr me wo pc ht fs la kh kf kl sh dk sk : Nat → Int32} (hN : N ≤ 12) (ok : kn = true → LkOk N pc ht fs la sh dk)  : Ct Z l yX10_allLost cX10_allLost 3 (some .int) (rmK 6) [.ref (mo 0)] (wMd Z mo pl th sz ea tk dp lr dy ca kn tp kd fr me va wo pc ht fs la kh kf kl sh dk sk ++ wPl Z pl (nI N) ls mn hn ha hh dz wh bg en od wi al) (fun v w => ∃ kn2 sh2 dk2, v = some (.int (alM N pc ht fs la)) ∧ w = (wMd Z mo pl th sz ea tk dp lr dy ca kn2 tp kd fr me va wo pc ht fs la kh kf kl sh2 dk2 sk ++ wPl Z pl (nI N) ls mn hn ha hh dz wh bg en od wi al) ∧ (kn2 = true → LkOk N pc ht fs la sh2 dk2)) := by
  refine Ct.ofJ (own := RX10) (nm := "allLost") (lv0 := [(0, .ref (mo 0))]) (by decide) rfl rfl (Nat.le_of_ble_eq_true rfl) rfl (fun X hXl C E => ?_)
  subst hXl
  refine J_iconst 0 C iX10_allLost_0 rfl ?_
  refine J_istore_n [(1, .int 0), (0, .ref (mo 0))] C iX10_allLost_1 rfl (by decide) rfl ?_
  refine J_iconst 0 C iX10_allLost_2 rfl ?_
  refine J_istore_n [(2, .int 0), (1, .int 0), (0, .ref (mo 0))] C iX10_allLost_3 rfl (by decide) rfl ?_
  refine J_lvm [(1, .int 0), (2, .int 0), (0, .ref (mo 0))] (by rfl) ?_
  refine J_forI (σ := Bool × (Nat → Int32) × (Nat → Int32)) (fun k q => [(1, .int (sumN (fun a => lsM N pc ht fs la a) k)), (2, .int (nI k)), (0, .ref (mo 0))]) (fun k q => (wMd Z mo pl th sz ea tk dp lr dy ca q.1 tp kd fr me va wo pc ht fs la kh kf kl q.2.1 q.2.2 sk ++ wPl Z pl (nI N) ls mn hn ha hh dz wh bg en od wi al)) (fun k q => q.1 = true → LkOk N pc ht fs la q.2.1 q.2.2) N 0 (kn, sh, dk) (by omega) ok ?_ ?_
  · rintro ⟨kn5, sh5, dk5⟩ hI
    dsimp only at hI ⊢
    refine J_iload_n C iX10_allLost_4 rfl rfl ?_
    refine J_aload_n C iX10_allLost_5 rfl rfl ?_
    refine J_get (.ref (pl 0)) 0 C iX10_allLost_6 gf_X10_20 rfl rfl ?_
    refine J_get (.int (nI N)) 17 C iX10_allLost_9 gf_X10_73 rfl rfl ?_
    refine J_icmpge 29 C iX10_allLost_12 rfl (fun h12 => ?_) (fun h12 => absurd (nI_le (Nat.le_refl N) (by omega)) h12)
    refine J_iload_n C iX10_allLost_29 rfl rfl ?_
    exact J_iret C E iX10_allLost_30 ⟨kn5, sh5, dk5, rfl, rfl, hI⟩
  · rintro k ⟨kn5, sh5, dk5⟩ hk0 hk hI ih
    dsimp only at hI ⊢
    refine J_iload_n C iX10_allLost_4 rfl rfl ?_
    refine J_aload_n C iX10_allLost_5 rfl rfl ?_
    refine J_get (.ref (pl 0)) 0 C iX10_allLost_6 gf_X10_20 rfl rfl ?_
    refine J_get (.int (nI N)) 17 C iX10_allLost_9 gf_X10_73 rfl rfl ?_
    refine J_icmpge 29 C iX10_allLost_12 rfl (fun h12 => absurd h12 (nI_ge hk (by omega))) (fun h12 => ?_)
    refine J_iload_n C iX10_allLost_15 rfl rfl ?_
    refine J_aload_n C iX10_allLost_16 rfl rfl ?_
    refine J_iload_n C iX10_allLost_17 rfl rfl ?_
    refine J_cVb (As := [.int (nI k)]) (st := .int (sumN (fun a => lsM N pc ht fs la a) k) :: []) (rc2 := (rmK 6).cells) (rs2 := (rmK 6).slots) C iX10_allLost_18 lm_X10_118 yc_X10_lostBy yv_X10_lostBy (c_X10_lostBy hN hI (by omega)) (q0 := 0) rfl rfl rfl [] [] rfl rfl (rmK_le (by omega) (by decide)) (Nat.le_of_ble_eq_true rfl) rfl rfl ?_
    rintro _ _ ⟨sh_1, dk_1, rfl, rfl, okk1⟩
    refine J_st (.int (lsM N pc ht fs la k) :: .int (sumN (fun a => lsM N pc ht fs la a) k) :: []) rfl ?_
    refine J_ws (wMd Z mo pl th sz ea tk dp lr dy ca true tp kd fr me va wo pc ht fs la kh kf kl sh_1 dk_1 sk ++ wPl Z pl (nI N) ls mn hn ha hh dz wh bg en od wi al) rfl ?_
    refine J_iadd C iX10_allLost_21 ?_
    refine J_istore_n [(1, .int ((sumN (fun a => lsM N pc ht fs la a) k) + (lsM N pc ht fs la k))), (2, .int (nI k)), (0, .ref (mo 0))] C iX10_allLost_22 rfl (by decide) rfl ?_
    refine J_iinc ((nI k) + 1) [(2, .int ((nI k) + 1)), (1, .int ((sumN (fun a => lsM N pc ht fs la a) k) + (lsM N pc ht fs la k))), (0, .ref (mo 0))] C iX10_allLost_23 rfl rfl (by decide) rfl ?_
    rw [show (nI k) + 1 = nI (k + 1) from nI_add _ _]
    refine J_goto 4 C iX10_allLost_26 rfl ?_
    refine J_lvm [(1, .int ((sumN (fun a => lsM N pc ht fs la a) k) + (lsM N pc ht fs la k))), (2, .int (nI (k + 1))), (0, .ref (mo 0))] rfl ?_
    exact ih (true, sh_1, dk_1) (fun _ => okk1)

