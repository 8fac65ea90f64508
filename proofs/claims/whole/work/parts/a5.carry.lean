set_option maxRecDepth 100000 in
set_option maxHeartbeats 4000000 in
theorem c_X10_isCarriedOut {Z : GZ} {l : Launch} {mo pl : Nat → Nat} {N : Nat} {th sz ea tk dp lr dy ca ls mn : Int32} {kn : Bool} {hn va : Nat → Int64} {ha hh dz wh bg en od wi al tp kd fr me wo pc ht fs la kh kf kl sh dk sk : Nat → Int32} {y h S c0 c1 c2 c3 : Nat} {z0 : Int32} {o g j : Nat → Int32} (hN : N ≤ 12) (ok : kn = true → LkOk N pc ht fs la sh dk) (hy : y < 16) (hS : S ≤ 400) (hrow : ∀ r, r < S → RowS N (od r) (wi r) (al r) (o r) (g r) (j r)) (hl : LawN o dz bg en S y z0 c0 c1 c2 c3) (hwh : wh y = nI h) (hhN : h < N) (hP : Pok N pc) (hFT : FTok N fs la)  : Ct Z l yX10_isCarriedOut cX10_isCarriedOut 2 (some .boolean) (rmK 10) [.ref (mo 0), .int (nI y)] (wMd Z mo pl th sz ea tk dp lr dy ca kn tp kd fr me va wo pc ht fs la kh kf kl sh dk sk ++ wPl Z pl (nI N) ls mn hn ha hh dz wh bg en od wi al) (fun v w => ∃ kn2 sh2 dk2 sk2 ht2 fs2 la2, v = some (.int (b2i (carF (lfG N dy pc ht fs la) o g j ht fs la z0 h c0 c1 c2 c3).1)) ∧ w = (wMd Z mo pl th sz ea tk dp lr dy ca kn2 tp kd fr me va wo pc ht2 fs2 la2 kh kf kl sh2 dk2 sk2 ++ wPl Z pl (nI N) ls mn hn ha hh dz wh bg en od wi al) ∧ (carF (lfG N dy pc ht fs la) o g j ht fs la z0 h c0 c1 c2 c3).2 = (ht2, fs2, la2) ∧ (kn2 = true → LkOk N pc ht2 fs2 la2 sh2 dk2) ∧ FTok N fs2 la2) := by
  obtain ⟨l01, l12, l23, lS, lb0, le0, lsg, lk⟩ := hl
  have r01 : rkX (lfI N dy pc ht fs la) o g j c0 c1 = rkX (lfG N dy pc ht fs la) o g j c0 c1 := rk_cong (fun r a b _ => lf_eq hN hP hFT (hrow r (by omega)) (by assumption))
  have r12 : rkX (lfI N dy pc ht fs la) o g j c1 c2 = rkX (lfG N dy pc ht fs la) o g j c1 c2 := rk_cong (fun r a b _ => lf_eq hN hP hFT (hrow r (by omega)) (by assumption))
  have r23 : rkX (lfI N dy pc ht fs la) o g j c2 c3 = rkX (lfG N dy pc ht fs la) o g j c2 c3 := rk_cong (fun r a b _ => lf_eq hN hP hFT (hrow r (by omega)) (by assumption))
  refine Ct.ofJ (own := RX10) (nm := "isCarriedOut") (lv0 := [(0, .ref (mo 0)), (1, .int (nI y))]) (by decide) rfl rfl (Nat.le_of_ble_eq_true rfl) rfl (fun X hXl C E => ?_)
  subst hXl
  refine J_aload_n C iX10_isCarriedOut_0 rfl rfl ?_
  refine J_iload_n C iX10_isCarriedOut_1 rfl rfl ?_
  refine J_cVb (As := [.int (nI y)]) (st := []) (rc2 := (rmK 10).cells) (rs2 := (rmK 10).slots) C iX10_isCarriedOut_2 lm_X10_163 yc_X10_holds yv_X10_holds (c_X10_holds hN ok hy hS hrow l23 lS lb0 le0 lsg) (q0 := 0) rfl rfl rfl [] [] rfl rfl (rmK_le (by omega) (by decide)) (Nat.le_of_ble_eq_true rfl) rfl rfl ?_
  rintro _ _ ⟨kn_0, sh_0, dk_0, sk_0, rfl, rfl, ok0⟩
  refine J_st (.int (b2i (!(decide (c2 < c3) && decide (rkX (lfI N dy pc ht fs la) o g j c2 c3 = 0)))) :: []) rfl ?_
  refine J_ws (wMd Z mo pl th sz ea tk dp lr dy ca kn_0 tp kd fr me va wo pc ht fs la kh kf kl sh_0 dk_0 sk_0 ++ wPl Z pl (nI N) ls mn hn ha hh dz wh bg en od wi al) rfl ?_
  refine J_ifneb 10 C iX10_isCarriedOut_5 rfl (fun h5 => ?_) (fun h5 => ?_)
  · have hcn := hld_t h5
    rcases lk with ⟨rfl, q1, q2, q3, q4, q5, q6, q7⟩ | ⟨rfl, q1⟩ | ⟨rfl, q1, q2, q3, q4⟩
    · refine J_aload_n C iX10_isCarriedOut_10 rfl rfl ?_
      refine J_get (.ref (pl 0)) 0 C iX10_isCarriedOut_11 gf_X10_20 rfl rfl ?_
      refine J_get (.ref (pl 4)) 17 C iX10_isCarriedOut_14 gf_X10_167 rfl rfl ?_
      refine J_iload_n C iX10_isCarriedOut_17 rfl rfl ?_
      refine J_iald 21 C iX10_isCarriedOut_18 rfl (vp_in_nI (n := y) (by omega) (by decide)) ?_
      rw [nI_clamp (n := y) (by omega)]
      rw [q1]
      refine J_iconst 4 C iX10_isCarriedOut_19 rfl ?_
      refine J_icmpne 31 C iX10_isCarriedOut_20 rfl (fun h20 => absurd (by decide) h20) (fun h20 => ?_)
      refine J_aload_n C iX10_isCarriedOut_23 rfl rfl ?_
      refine J_iload_n C iX10_isCarriedOut_24 rfl rfl ?_
      refine J_cVb (As := [.int (nI y)]) (st := []) (rc2 := (rmK 10).cells) (rs2 := (rmK 10).slots) C iX10_isCarriedOut_25 lm_X10_170 yc_X10_isCurfewSet yv_X10_isCurfewSet (c_X10_isCurfewSet hN ok0 hy hS hrow (by omega) (by omega) hwh hhN q2 q3 q4 q5 q6 q7 hFT) (q0 := 0) rfl rfl rfl [] [] rfl rfl (rmK_le (by omega) (by decide)) (Nat.le_of_ble_eq_true rfl) rfl rfl ?_
      rintro _ _ ⟨kn_1, sh_1, dk_1, sk_1, ht_1, fs_1, la_1, rfl, rfl, he1, ok1_, ft1⟩
      refine J_st (.int (b2i ((if hlF (rkX (lfI N dy pc ht fs la) o g j c1 c2).toInt64 6 18 < hlF (rkX (lfI N dy pc ht fs la) o g j c0 c1).toInt64 6 18 then (false, ht, fs, la) else cuF ht fs la h (hlF (rkX (lfI N dy pc ht fs la) o g j c0 c1).toInt64 6 18) (hlF (rkX (lfI N dy pc ht fs la) o g j c1 c2).toInt64 6 18))).1) :: []) rfl ?_
      refine J_ws (wMd Z mo pl th sz ea tk dp lr dy ca kn_1 tp kd fr me va wo pc ht_1 fs_1 la_1 kh kf kl sh_1 dk_1 sk_1 ++ wPl Z pl (nI N) ls mn hn ha hh dz wh bg en od wi al) rfl ?_
      refine J_goto 66 C iX10_isCarriedOut_28 rfl ?_
      exact J_zret C E iX10_isCarriedOut_66 nb_b2i ⟨kn_1, sh_1, dk_1, sk_1, ht_1, fs_1, la_1, by rw [carF, if_neg (show ¬ (c2 < c3 ∧ rkX (lfG N dy pc ht fs la) o g j c2 c3 = 0) from fun q => hcn ⟨q.1, by rw [r23]; exact q.2⟩), if_neg (show ¬ (0 : Int32) = 1 by decide), if_neg (show ¬ (0 : Int32) = 2 by decide), ← r01, ← r12], rfl, by rw [carF, if_neg (show ¬ (c2 < c3 ∧ rkX (lfG N dy pc ht fs la) o g j c2 c3 = 0) from fun q => hcn ⟨q.1, by rw [r23]; exact q.2⟩), if_neg (show ¬ (0 : Int32) = 1 by decide), if_neg (show ¬ (0 : Int32) = 2 by decide), ← r01, ← r12]; exact he1, ok1_, ft1⟩
    · refine J_aload_n C iX10_isCarriedOut_10 rfl rfl ?_
      refine J_get (.ref (pl 0)) 0 C iX10_isCarriedOut_11 gf_X10_20 rfl rfl ?_
      refine J_get (.ref (pl 4)) 17 C iX10_isCarriedOut_14 gf_X10_167 rfl rfl ?_
      refine J_iload_n C iX10_isCarriedOut_17 rfl rfl ?_
      refine J_iald 21 C iX10_isCarriedOut_18 rfl (vp_in_nI (n := y) (by omega) (by decide)) ?_
      rw [nI_clamp (n := y) (by omega)]
      rw [q1]
      refine J_iconst 4 C iX10_isCarriedOut_19 rfl ?_
      refine J_icmpne 31 C iX10_isCarriedOut_20 rfl (fun h20 => ?_) (fun h20 => absurd h20 (by decide))
      refine J_aload_n C iX10_isCarriedOut_31 rfl rfl ?_
      refine J_get (.ref (pl 0)) 0 C iX10_isCarriedOut_32 gf_X10_20 rfl rfl ?_
      refine J_get (.ref (pl 4)) 17 C iX10_isCarriedOut_35 gf_X10_167 rfl rfl ?_
      refine J_iload_n C iX10_isCarriedOut_38 rfl rfl ?_
      refine J_iald 21 C iX10_isCarriedOut_39 rfl (vp_in_nI (n := y) (by omega) (by decide)) ?_
      rw [nI_clamp (n := y) (by omega)]
      rw [q1]
      refine J_bipush 7 C iX10_isCarriedOut_40 rfl ?_
      refine J_icmpne 61 C iX10_isCarriedOut_42 rfl (fun h42 => absurd (by decide) h42) (fun h42 => ?_)
      refine J_aload_n C iX10_isCarriedOut_45 rfl rfl ?_
      refine J_aload_n C iX10_isCarriedOut_46 rfl rfl ?_
      refine J_get (.ref (pl 0)) 0 C iX10_isCarriedOut_47 gf_X10_20 rfl rfl ?_
      refine J_get (.ref (pl 5)) 17 C iX10_isCarriedOut_50 gf_X10_139 rfl rfl ?_
      refine J_iload_n C iX10_isCarriedOut_53 rfl rfl ?_
      refine J_iald 22 C iX10_isCarriedOut_54 rfl (vp_in_nI (n := y) (by omega) (by decide)) ?_
      rw [nI_clamp (n := y) (by omega)]
      rw [hwh]
      refine J_cVb (As := [.int (nI h)]) (st := []) (rc2 := (rmK 10).cells) (rs2 := (rmK 10).slots) C iX10_isCarriedOut_55 lm_X10_173 yc_X10_isOpened yv_X10_isOpened (c_X10_isOpened hN ok0 hhN hFT) (q0 := 0) rfl rfl rfl [] [] rfl rfl (rmK_le (by omega) (by decide)) (Nat.le_of_ble_eq_true rfl) rfl rfl ?_
      rintro _ _ ⟨kn_1, sh_1, dk_1, sk_1, ht_1, fs_1, la_1, rfl, rfl, he1, ok1_, ft1⟩
      refine J_st (.int (b2i (cuF ht fs la h (-1) (-1)).1) :: []) rfl ?_
      refine J_ws (wMd Z mo pl th sz ea tk dp lr dy ca kn_1 tp kd fr me va wo pc ht_1 fs_1 la_1 kh kf kl sh_1 dk_1 sk_1 ++ wPl Z pl (nI N) ls mn hn ha hh dz wh bg en od wi al) rfl ?_
      refine J_goto 66 C iX10_isCarriedOut_58 rfl ?_
      exact J_zret C E iX10_isCarriedOut_66 nb_b2i ⟨kn_1, sh_1, dk_1, sk_1, ht_1, fs_1, la_1, by rw [carF, if_neg (show ¬ (c2 < c3 ∧ rkX (lfG N dy pc ht fs la) o g j c2 c3 = 0) from fun q => hcn ⟨q.1, by rw [r23]; exact q.2⟩), if_pos rfl], rfl, by rw [carF, if_neg (show ¬ (c2 < c3 ∧ rkX (lfG N dy pc ht fs la) o g j c2 c3 = 0) from fun q => hcn ⟨q.1, by rw [r23]; exact q.2⟩), if_pos rfl]; exact he1, ok1_, ft1⟩
    · refine J_aload_n C iX10_isCarriedOut_10 rfl rfl ?_
      refine J_get (.ref (pl 0)) 0 C iX10_isCarriedOut_11 gf_X10_20 rfl rfl ?_
      refine J_get (.ref (pl 4)) 17 C iX10_isCarriedOut_14 gf_X10_167 rfl rfl ?_
      refine J_iload_n C iX10_isCarriedOut_17 rfl rfl ?_
      refine J_iald 21 C iX10_isCarriedOut_18 rfl (vp_in_nI (n := y) (by omega) (by decide)) ?_
      rw [nI_clamp (n := y) (by omega)]
      rw [q1]
      refine J_iconst 4 C iX10_isCarriedOut_19 rfl ?_
      refine J_icmpne 31 C iX10_isCarriedOut_20 rfl (fun h20 => ?_) (fun h20 => absurd h20 (by decide))
      refine J_aload_n C iX10_isCarriedOut_31 rfl rfl ?_
      refine J_get (.ref (pl 0)) 0 C iX10_isCarriedOut_32 gf_X10_20 rfl rfl ?_
      refine J_get (.ref (pl 4)) 17 C iX10_isCarriedOut_35 gf_X10_167 rfl rfl ?_
      refine J_iload_n C iX10_isCarriedOut_38 rfl rfl ?_
      refine J_iald 21 C iX10_isCarriedOut_39 rfl (vp_in_nI (n := y) (by omega) (by decide)) ?_
      rw [nI_clamp (n := y) (by omega)]
      rw [q1]
      refine J_bipush 7 C iX10_isCarriedOut_40 rfl ?_
      refine J_icmpne 61 C iX10_isCarriedOut_42 rfl (fun h42 => ?_) (fun h42 => absurd h42 (by decide))
      refine J_aload_n C iX10_isCarriedOut_61 rfl rfl ?_
      refine J_iload_n C iX10_isCarriedOut_62 rfl rfl ?_
      refine J_cVb (As := [.int (nI y)]) (st := []) (rc2 := (rmK 10).cells) (rs2 := (rmK 10).slots) C iX10_isCarriedOut_63 lm_X10_176 yc_X10_isRaised yv_X10_isRaised (c_X10_isRaised hN ok0 hy hS hrow (by omega) hwh hhN q2 q3 q4 hFT) (q0 := 0) rfl rfl rfl [] [] rfl rfl (rmK_le (by omega) (by decide)) (Nat.le_of_ble_eq_true rfl) rfl rfl ?_
      rintro _ _ ⟨kn_1, sh_1, dk_1, sk_1, ht_1, fs_1, la_1, rfl, rfl, he1, ok1_, ft1⟩
      refine J_st (.int (b2i (hgF ht fs la h (hlF ((ht h).toInt64 + (rkX (lfI N dy pc ht fs la) o g j c0 c1).toInt64) 0 30)).1) :: []) rfl ?_
      refine J_ws (wMd Z mo pl th sz ea tk dp lr dy ca kn_1 tp kd fr me va wo pc ht_1 fs_1 la_1 kh kf kl sh_1 dk_1 sk_1 ++ wPl Z pl (nI N) ls mn hn ha hh dz wh bg en od wi al) rfl ?_
      exact J_zret C E iX10_isCarriedOut_66 nb_b2i ⟨kn_1, sh_1, dk_1, sk_1, ht_1, fs_1, la_1, by rw [carF, if_neg (show ¬ (c2 < c3 ∧ rkX (lfG N dy pc ht fs la) o g j c2 c3 = 0) from fun q => hcn ⟨q.1, by rw [r23]; exact q.2⟩), if_neg (show ¬ (2 : Int32) = 1 by decide), if_pos rfl, ← r01], rfl, by rw [carF, if_neg (show ¬ (c2 < c3 ∧ rkX (lfG N dy pc ht fs la) o g j c2 c3 = 0) from fun q => hcn ⟨q.1, by rw [r23]; exact q.2⟩), if_neg (show ¬ (2 : Int32) = 1 by decide), if_pos rfl, ← r01]; exact he1, ok1_, ft1⟩
  · refine J_iconst 0 C iX10_isCarriedOut_8 rfl ?_
    exact J_zret C E iX10_isCarriedOut_9 rfl ⟨kn_0, sh_0, dk_0, sk_0, ht, fs, la, by rw [carF, if_pos (show c2 < c3 ∧ rkX (lfG N dy pc ht fs la) o g j c2 c3 = 0 from ⟨(hld_f h5).1, by rw [← r23]; exact (hld_f h5).2⟩)]; rfl, rfl, by rw [carF, if_pos (show c2 < c3 ∧ rkX (lfG N dy pc ht fs la) o g j c2 c3 = 0 from ⟨(hld_f h5).1, by rw [← r23]; exact (hld_f h5).2⟩)], ok0, hFT⟩

