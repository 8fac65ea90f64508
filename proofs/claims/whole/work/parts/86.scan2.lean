set_option maxRecDepth 100000 in
set_option maxHeartbeats 4000000 in
theorem c_X10_numberAt {Z : GZ} {l : Launch} {mo pl : Nat → Nat} {th ea tk dp lr dy ca : Int32} {kn : Bool} {va : Nat → Int64} {tp kd fr me wo pc ht fs la kh kf kl sh dk sk : Nat → Int32} {tz : Nat} {tb : Nat → Int32} (htz : tz ≤ 2000) (htp : ∀ p, p < tz → tp p = sgN tz tb p) {x : Nat} (hx : x < 401) {s L : Nat} (hs : s ≤ 2000) (hL : L ≤ 6) (hdg : ∀ j, j < L → isDig (sgN tz tb (s + j)) = true)  : Ct Z l yX10_numberAt cX10_numberAt 6 (some .int) (rmK 0) [.ref (mo 0), .int (nI x), .int (nI s), .int (nI (s + L))] (wMd Z mo pl th (nI tz) ea tk dp lr dy ca kn tp kd fr me va wo pc ht fs la kh kf kl sh dk sk) (fun v w => v = some (.int 31) ∧ w = (wMd Z mo pl th (nI tz) ea tk dp lr dy ca kn tp kd fr me (vp_updL va x (nmI tz tb s L).toInt64) wo pc ht fs la kh kf kl sh dk sk)) := by
  refine Ct.ofJ (own := RX10) (nm := "numberAt") (lv0 := [(0, .ref (mo 0)), (1, .int (nI x)), (2, .int (nI s)), (3, .int (nI (s + L)))]) (by decide) rfl rfl (Nat.le_of_ble_eq_true rfl) rfl (fun X hXl C E => ?_)
  subst hXl
  refine J_iconst 0 C iX10_numberAt_0 rfl ?_
  refine J_istore [(4, .int 0), (0, .ref (mo 0)), (1, .int (nI x)), (2, .int (nI s)), (3, .int (nI (s + L)))] C iX10_numberAt_1 (by decide) rfl ?_
  refine J_iload_n C iX10_numberAt_3 rfl rfl ?_
  refine J_istore [(5, .int (nI s)), (4, .int 0), (0, .ref (mo 0)), (1, .int (nI x)), (2, .int (nI s)), (3, .int (nI (s + L)))] C iX10_numberAt_4 (by decide) rfl ?_
  refine J_lvm [(4, .int 0), (5, .int (nI s)), (1, .int (nI x)), (2, .int (nI s)), (3, .int (nI (s + L))), (0, .ref (mo 0))] rfl ?_
  refine J_for (fun k => [(4, .int (nmI tz tb s k)), (5, .int (nI (s + k))), (1, .int (nI x)), (2, .int (nI s)), (3, .int (nI (s + L))), (0, .ref (mo 0))]) (fun k => (wMd Z mo pl th (nI tz) ea tk dp lr dy ca kn tp kd fr me va wo pc ht fs la kh kf kl sh dk sk)) L 0 (by omega) ?_ (fun k hk0 hk ih => ?_)
  · refine J_iload C iX10_numberAt_6 rfl ?_
    refine J_iload_n C iX10_numberAt_8 rfl rfl ?_
    refine J_icmpge 36 C iX10_numberAt_9 rfl (fun h9 => ?_) (fun h9 => absurd (nI_le (a := s + L) (b := s + L) (Nat.le_refl _) (by omega)) h9)
    refine J_aload_n C iX10_numberAt_36 rfl rfl ?_
    refine J_get (.ref (mo 5)) 0 C iX10_numberAt_37 gf_X10_33 rfl rfl ?_
    refine J_iload_n C iX10_numberAt_40 rfl rfl ?_
    refine J_iload C iX10_numberAt_41 rfl ?_
    refine J_i2l C iX10_numberAt_43 ?_
    refine J_last (wMd Z mo pl th (nI tz) ea tk dp lr dy ca kn tp kd fr me (vp_updL va (nI x).toNatClampNeg ((nmI tz tb s L).toInt64)) wo pc ht fs la kh kf kl sh dk sk) 5 C iX10_numberAt_44 rfl (vp_in_nI (n := x) (by omega) (by decide)) rfl ?_
    rw [nI_clamp (n := x) (by omega)]
    refine J_bipush 31 C iX10_numberAt_45 rfl ?_
    exact J_iret C E iX10_numberAt_47 ⟨rfl, rfl⟩
  · have hz1 : s + k < tz := sg_in2 (dig_not1 (hdg k hk)) (by omega)
    refine J_iload C iX10_numberAt_6 rfl ?_
    refine J_iload_n C iX10_numberAt_8 rfl rfl ?_
    refine J_icmpge 36 C iX10_numberAt_9 rfl (fun h9 => absurd h9 (nI_ge (a := s + k) (b := s + L) (by omega) (by omega))) (fun h9 => ?_)
    refine J_bipush 10 C iX10_numberAt_12 rfl ?_
    refine J_iload C iX10_numberAt_14 rfl ?_
    refine J_imul C iX10_numberAt_16 ?_
    refine J_aload_n C iX10_numberAt_17 rfl rfl ?_
    refine J_get (.ref (mo 1)) 0 C iX10_numberAt_18 gf_X10_9 rfl rfl ?_
    refine J_iload C iX10_numberAt_21 rfl ?_
    refine J_iald 1 C iX10_numberAt_23 rfl (vp_in_nI (n := (s + k)) (by omega) (by decide)) ?_
    rw [nI_clamp (n := (s + k)) (by omega)]
    refine J_iadd C iX10_numberAt_24 ?_
    refine J_bipush 48 C iX10_numberAt_25 rfl ?_
    refine J_isub C iX10_numberAt_27 ?_
    refine J_istore [(4, .int (((10 * (nmI tz tb s k)) + (tp (s + k))) - 48)), (5, .int (nI (s + k))), (1, .int (nI x)), (2, .int (nI s)), (3, .int (nI (s + L))), (0, .ref (mo 0))] C iX10_numberAt_28 (by decide) rfl ?_
    refine J_iinc ((nI (s + k)) + 1) [(5, .int ((nI (s + k)) + 1)), (4, .int (((10 * (nmI tz tb s k)) + (tp (s + k))) - 48)), (1, .int (nI x)), (2, .int (nI s)), (3, .int (nI (s + L))), (0, .ref (mo 0))] C iX10_numberAt_30 rfl rfl (by decide) rfl ?_
    rw [show (nI (s + k)) + 1 = nI ((s + k) + 1) from nI_add _ _]
    refine J_goto 6 C iX10_numberAt_33 rfl ?_
    refine J_lvm [(4, .int (((10 * (nmI tz tb s k)) + (tp (s + k))) - 48)), (5, .int (nI ((s + k) + 1))), (1, .int (nI x)), (2, .int (nI s)), (3, .int (nI (s + L))), (0, .ref (mo 0))] rfl ?_
    rw [htp (s + k) hz1]
    exact ih

set_option maxRecDepth 100000 in
set_option maxHeartbeats 4000000 in
theorem c_X10_wordAt {Z : GZ} {l : Launch} {mo pl : Nat → Nat} {th ea tk dp lr dy ca : Int32} {kn : Bool} {va : Nat → Int64} {tp kd fr me wo pc ht fs la kh kf kl sh dk sk : Nat → Int32} {tz : Nat} {tb : Nat → Int32} (htz : tz ≤ 2000) (htp : ∀ p, p < tz → tp p = sgN tz tb p) {x : Nat} (hx : x < 401) {s L : Nat} (hs : s ≤ 2000) (hL : L ≤ 10) (hv0 : wVal tz tb s L ≠ 0) (hwd : ∀ j, j < L → (isLet (sgN tz tb (s + j)) || isDig (sgN tz tb (s + j))) = true)  : Ct Z l yX10_wordAt cX10_wordAt 7 (some .int) (rmK 6) [.ref (mo 0), .int (nI x), .int (nI s), .int (nI (s + L))] (wMd Z mo pl th (nI tz) ea tk dp lr dy ca kn tp kd fr me va wo pc ht fs la kh kf kl sh dk sk) (fun v w => v = some (.int (km ((kwO (wVal tz tb s L)).getD 39))) ∧ w = (wMd Z mo pl th (nI tz) ea tk dp lr dy ca kn tp kd fr me (vp_updL va x (wVal tz tb s L)) wo pc ht fs la kh kf kl sh dk sk)) := by
  refine Ct.ofJ (own := RX10) (nm := "wordAt") (lv0 := [(0, .ref (mo 0)), (1, .int (nI x)), (2, .int (nI s)), (3, .int (nI (s + L)))]) (by decide) rfl rfl (Nat.le_of_ble_eq_true rfl) rfl (fun X hXl C E => ?_)
  subst hXl
  refine J_lconst 0 C iX10_wordAt_0 rfl ?_
  refine J_lstore [(4, .long 0), (0, .ref (mo 0)), (1, .int (nI x)), (2, .int (nI s)), (3, .int (nI (s + L)))] C iX10_wordAt_1 (by decide) rfl ?_
  refine J_iload_n C iX10_wordAt_3 rfl rfl ?_
  refine J_istore [(6, .int (nI s)), (4, .long 0), (0, .ref (mo 0)), (1, .int (nI x)), (2, .int (nI s)), (3, .int (nI (s + L)))] C iX10_wordAt_4 (by decide) rfl ?_
  refine J_lvm [(4, .long 0), (6, .int (nI s)), (1, .int (nI x)), (2, .int (nI s)), (3, .int (nI (s + L))), (0, .ref (mo 0))] rfl ?_
  refine J_for (fun k => [(4, .long (wVal tz tb s k)), (6, .int (nI (s + k))), (1, .int (nI x)), (2, .int (nI s)), (3, .int (nI (s + L))), (0, .ref (mo 0))]) (fun k => (wMd Z mo pl th (nI tz) ea tk dp lr dy ca kn tp kd fr me va wo pc ht fs la kh kf kl sh dk sk)) L 0 (by omega) ?_ (fun k hk0 hk ih => ?_)
  · refine J_iload C iX10_wordAt_6 rfl ?_
    refine J_iload_n C iX10_wordAt_8 rfl rfl ?_
    refine J_icmpge 38 C iX10_wordAt_9 rfl (fun h9 => ?_) (fun h9 => absurd (nI_le (a := s + L) (b := s + L) (Nat.le_refl _) (by omega)) h9)
    refine J_aload_n C iX10_wordAt_38 rfl rfl ?_
    refine J_get (.ref (mo 5)) 0 C iX10_wordAt_39 gf_X10_33 rfl rfl ?_
    refine J_iload_n C iX10_wordAt_42 rfl rfl ?_
    refine J_lload C iX10_wordAt_43 rfl ?_
    refine J_last (wMd Z mo pl th (nI tz) ea tk dp lr dy ca kn tp kd fr me (vp_updL va (nI x).toNatClampNeg (wVal tz tb s L)) wo pc ht fs la kh kf kl sh dk sk) 5 C iX10_wordAt_45 rfl (vp_in_nI (n := x) (by omega) (by decide)) rfl ?_
    rw [nI_clamp (n := x) (by omega)]
    refine J_iconst 0 C iX10_wordAt_46 rfl ?_
    refine J_istore [(6, .int 0), (4, .long (wVal tz tb s L)), (1, .int (nI x)), (2, .int (nI s)), (3, .int (nI (s + L))), (0, .ref (mo 0))] C iX10_wordAt_47 (by decide) rfl ?_
    refine J_lvm [(6, .int 0), (4, .long (wVal tz tb s L)), (0, .ref (mo 0))] rfl ?_
    refine J_forP (fun k => [(6, .int (nI k)), (4, .long (wVal tz tb s L)), (0, .ref (mo 0))]) (fun k => (wMd Z mo pl th (nI tz) ea tk dp lr dy ca kn tp kd fr me (vp_updL va x (wVal tz tb s L)) wo pc ht fs la kh kf kl sh dk sk)) (fun k => ∀ j, j < k → ¬ kWd.getD j 0 = wVal tz tb s L) 24 0 (by omega) (fun _ h => absurd h (Nat.not_lt_zero _)) (fun hI => ?_) (fun k hk0 hk hI ih => ?_)
    · refine J_iload C iX10_wordAt_49 rfl ?_
      refine J_getsWORDS C iX10_wordAt_51 sw_X10_249 ?_
      refine J_alenC 24 C iX10_wordAt_54 C.2.2.2.2.2.2.1.2.2.2.2.2.1 rfl ?_
      refine J_icmpge 82 C iX10_wordAt_55 rfl (fun h55 => ?_) (fun h55 => absurd (by decide) h55)
      refine J_bipush 30 C iX10_wordAt_82 rfl ?_
      exact J_iret C E iX10_wordAt_84 ⟨by rw [kw_none hv0 hI]; rfl, rfl⟩
    · refine J_iload C iX10_wordAt_49 rfl ?_
      refine J_getsWORDS C iX10_wordAt_51 sw_X10_249 ?_
      refine J_alenC 24 C iX10_wordAt_54 C.2.2.2.2.2.2.1.2.2.2.2.2.1 rfl ?_
      refine J_icmpge 82 C iX10_wordAt_55 rfl (fun h55 => absurd h55 (nI_ge (a := k) (b := 24) hk (by decide))) (fun h55 => ?_)
      refine J_getsWORDS C iX10_wordAt_58 sw_X10_249 ?_
      refine J_iload C iX10_wordAt_61 rfl ?_
      refine J_aaldWORDS C iX10_wordAt_63 (vp_in_nI (n := k) (by omega) (by decide)) ?_
      rw [nI_clamp (n := k) (by omega)]
      refine J_cSp (As := [.ref (zsk Z k)]) (st := []) C iX10_wordAt_64 lm_X10_253 yc_X10_nameOf ys_X10_nameOf (c_X10_nameOf (i := k) (by omega)) rfl (rmK_le (by omega) (by decide)) (Nat.le_of_ble_eq_true rfl) ⟨rfl, rfl⟩ ?_
      rintro _ rfl
      refine J_st (.long (kWd.getD k 0) :: []) rfl ?_
      refine J_lload C iX10_wordAt_67 rfl ?_
      refine J_lcmp C iX10_wordAt_69 ?_
      refine J_ifneL 76 C iX10_wordAt_70 rfl (fun h70 => ?_) (fun h70 => ?_)
      · refine J_iinc ((nI k) + 1) [(6, .int ((nI k) + 1)), (4, .long (wVal tz tb s L)), (0, .ref (mo 0))] C iX10_wordAt_76 rfl rfl (by decide) rfl ?_
        rw [show (nI k) + 1 = nI (k + 1) from nI_add _ _]
        refine J_goto 49 C iX10_wordAt_79 rfl ?_
        refine J_lvm [(6, .int (nI (k + 1))), (4, .long (wVal tz tb s L)), (0, .ref (mo 0))] rfl ?_
        exact ih (lt_s hI h70)
      · refine J_iload C iX10_wordAt_73 rfl ?_
        exact J_iret C E iX10_wordAt_75 ⟨by rw [kwO_some (k := k) (by omega) h70 hI]; exact congrArg (fun z => some (Value.int z)) (km_lo hk).symm, rfl⟩
  · have hz1 : s + k < tz := sg_in2 (fun e => by have h9 := hwd k hk; rw [e] at h9; exact absurd h9 (by decide)) (by omega)
    refine J_iload C iX10_wordAt_6 rfl ?_
    refine J_iload_n C iX10_wordAt_8 rfl rfl ?_
    refine J_icmpge 38 C iX10_wordAt_9 rfl (fun h9 => absurd h9 (nI_ge (a := s + k) (b := s + L) (by omega) (by omega))) (fun h9 => ?_)
    refine J_ldc2 37 C iX10_wordAt_12 (tsg_in (i := 1383) (by decide +kernel) rfl) ?_
    refine J_lload C iX10_wordAt_15 rfl ?_
    refine J_lmul C iX10_wordAt_17 ?_
    refine J_aload_n C iX10_wordAt_18 rfl rfl ?_
    refine J_get (.ref (mo 1)) 0 C iX10_wordAt_19 gf_X10_9 rfl rfl ?_
    refine J_iload C iX10_wordAt_22 rfl ?_
    refine J_iald 1 C iX10_wordAt_24 rfl (vp_in_nI (n := (s + k)) (by omega) (by decide)) ?_
    rw [nI_clamp (n := (s + k)) (by omega)]
    refine J_cSp (As := [.int (tp (s + k))]) (st := .long (37 * (wVal tz tb s k)) :: []) C iX10_wordAt_25 lm_X10_246 yc_X10_letter ys_X10_letter (c_X10_letter (b := tp (s + k))) rfl (rmK_le (by omega) (by decide)) (Nat.le_of_ble_eq_true rfl) ⟨rfl, rfl⟩ ?_
    rintro _ rfl
    refine J_st (.int (ltM (tp (s + k))) :: .long (37 * (wVal tz tb s k)) :: []) rfl ?_
    refine J_i2l C iX10_wordAt_28 ?_
    refine J_ladd C iX10_wordAt_29 ?_
    refine J_lstore [(4, .long ((37 * (wVal tz tb s k)) + ((ltM (tp (s + k))).toInt64))), (6, .int (nI (s + k))), (1, .int (nI x)), (2, .int (nI s)), (3, .int (nI (s + L))), (0, .ref (mo 0))] C iX10_wordAt_30 (by decide) rfl ?_
    refine J_iinc ((nI (s + k)) + 1) [(6, .int ((nI (s + k)) + 1)), (4, .long ((37 * (wVal tz tb s k)) + ((ltM (tp (s + k))).toInt64))), (1, .int (nI x)), (2, .int (nI s)), (3, .int (nI (s + L))), (0, .ref (mo 0))] C iX10_wordAt_32 rfl rfl (by decide) rfl ?_
    rw [show (nI (s + k)) + 1 = nI ((s + k) + 1) from nI_add _ _]
    refine J_goto 6 C iX10_wordAt_35 rfl ?_
    refine J_lvm [(4, .long ((37 * (wVal tz tb s k)) + ((ltM (tp (s + k))).toInt64))), (6, .int (nI ((s + k) + 1))), (1, .int (nI x)), (2, .int (nI s)), (3, .int (nI (s + L))), (0, .ref (mo 0))] rfl ?_
    rw [htp (s + k) hz1, wv_s (hwd k hk)]
    exact ih

set_option maxRecDepth 100000 in
set_option maxHeartbeats 4000000 in
theorem c_X10_kindOf {Z : GZ} {l : Launch} {mo pl : Nat → Nat} {th ea tk dp lr dy ca : Int32} {kn : Bool} {va : Nat → Int64} {tp kd fr me wo pc ht fs la kh kf kl sh dk sk : Nat → Int32} {tz : Nat} {tb : Nat → Int32} (htz : tz ≤ 2000) (htp : ∀ p, p < tz → tp p = sgN tz tb p) {x : Nat} (hx : x < 401) {s : Nat} (hs : s ≤ 2000)  : Ct Z l yX10_kindOf cX10_kindOf 5 (some .int) (rmK 7) [.ref (mo 0), .int (nI x), .int (nI s), .int (nI (endP tz tb s))] (wMd Z mo pl th (nI tz) ea tk dp lr dy ca kn tp kd fr me va wo pc ht fs la kh kf kl sh dk sk) (fun v w => ∃ va2, v = some (.int (km (tkM tz tb s))) ∧ w = (wMd Z mo pl th (nI tz) ea tk dp lr dy ca kn tp kd fr me va2 wo pc ht fs la kh kf kl sh dk sk) ∧ (∀ k, k ≠ x → va2 k = va k) ∧ (tkM tz tb s = 39 ∨ tkM tz tb s = 40 → va2 x = tkVM tz tb s)) := by
  refine Ct.ofJ (own := RX10) (nm := "kindOf") (lv0 := [(0, .ref (mo 0)), (1, .int (nI x)), (2, .int (nI s)), (3, .int (nI (endP tz tb s)))]) (by decide) rfl rfl (Nat.le_of_ble_eq_true rfl) rfl (fun X hXl C E => ?_)
  subst hXl
  refine J_aload_n C iX10_kindOf_0 rfl rfl ?_
  refine J_iload_n C iX10_kindOf_1 rfl rfl ?_
  refine J_cV (As := [.int (nI s)]) (st := []) (rc2 := (rmK 7).cells) (rs2 := (rmK 7).slots) C iX10_kindOf_2 lm_X10_220 yc_X10_byteOf yv_X10_byteOf (c_X10_byteOf htz htp (p := s) (by omega)) (q0 := 0) rfl rfl rfl rfl (rmK_le (by omega) (by decide)) (Nat.le_of_ble_eq_true rfl) rfl rfl ?_
  rintro _ _ ⟨rfl, rfl⟩
  refine J_st (.int (sgN tz tb s) :: []) rfl ?_
  refine J_istore [(4, .int (sgN tz tb s)), (0, .ref (mo 0)), (1, .int (nI x)), (2, .int (nI s)), (3, .int (nI (endP tz tb s)))] C iX10_kindOf_5 (by decide) rfl ?_
  refine J_iload C iX10_kindOf_7 rfl ?_
  refine J_iconst (-1) C iX10_kindOf_9 rfl ?_
  refine J_icmpne 16 C iX10_kindOf_10 rfl (fun h10 => ?_) (fun h10 => ?_)
  · refine J_iload C iX10_kindOf_16 rfl ?_
    refine J_cSp (As := [.int (sgN tz tb s)]) (st := []) C iX10_kindOf_18 lm_X10_226 yc_X10_isDigit ys_X10_isDigit (c_X10_isDigit (b := sgN tz tb s)) rfl (rmK_le (by omega) (by decide)) (Nat.le_of_ble_eq_true rfl) ⟨rfl, rfl⟩ ?_
    rintro _ rfl
    refine J_st (.int (b2i (isDig (sgN tz tb s))) :: []) rfl ?_
    refine J_ifeqb 45 C iX10_kindOf_21 rfl (fun h21 => ?_) (fun h21 => ?_)
    · refine J_iload C iX10_kindOf_45 rfl ?_
      refine J_cSp (As := [.int (sgN tz tb s)]) (st := []) C iX10_kindOf_47 lm_X10_223 yc_X10_isSmall ys_X10_isSmall (c_X10_isSmall (b := sgN tz tb s)) rfl (rmK_le (by omega) (by decide)) (Nat.le_of_ble_eq_true rfl) ⟨rfl, rfl⟩ ?_
      rintro _ rfl
      refine J_st (.int (b2i (isLet (sgN tz tb s))) :: []) rfl ?_
      refine J_ifeqb 74 C iX10_kindOf_50 rfl (fun h50 => ?_) (fun h50 => ?_)
      · by_cases h2q : (sgN tz tb s = 60 ∨ sgN tz tb s = 62) ∧ sgN tz tb (s + 1) = 61
        · refine J_lvm [(4, .int (sgN tz tb s)), (0, .ref (mo 0)), (1, .int (nI x)), (2, .int (nI s)), (3, .int (nI (s + 2)))] (by rw [endP_2 h50 h21 h2q]; rfl) ?_
          refine J_iload_n C iX10_kindOf_74 rfl rfl ?_
          refine J_iload_n C iX10_kindOf_75 rfl rfl ?_
          refine J_isub C iX10_kindOf_76 ?_
          rw [show (nI (s + 2)) - (nI s) = nI 2 from sub_nI _ _]
          refine J_iconst 2 C iX10_kindOf_77 rfl ?_
          refine J_icmpne 88 C iX10_kindOf_78 rfl (fun h78 => absurd rfl h78) (fun h78 => ?_)
          refine J_sipush 256 C iX10_kindOf_81 rfl ?_
          refine J_iload C iX10_kindOf_84 rfl ?_
          refine J_iadd C iX10_kindOf_86 ?_
          exact J_iret C E iX10_kindOf_87 ⟨va, by rw [tkM, if_neg h10, if_neg (by rw [h50]; exact Bool.false_ne_true), if_neg (by rw [h21]; exact Bool.false_ne_true)]; rcases h2q with ⟨e9 | e9, e8⟩ <;> rw [e9, e8] <;> rfl, rfl, fun _ _ => rfl, fun q => by rw [tkM, if_neg h10, if_neg (by rw [h50]; exact Bool.false_ne_true), if_neg (by rw [h21]; exact Bool.false_ne_true)] at q; exact absurd q (not_or.mpr (sy_out _ _))⟩
        · refine J_lvm [(4, .int (sgN tz tb s)), (0, .ref (mo 0)), (1, .int (nI x)), (2, .int (nI s)), (3, .int (nI (s + 1)))] (by rw [endP_1 h50 h21 h2q]; rfl) ?_
          refine J_iload_n C iX10_kindOf_74 rfl rfl ?_
          refine J_iload_n C iX10_kindOf_75 rfl rfl ?_
          refine J_isub C iX10_kindOf_76 ?_
          rw [show (nI (s + 1)) - (nI s) = nI 1 from sub_nI _ _]
          refine J_iconst 2 C iX10_kindOf_77 rfl ?_
          refine J_icmpne 88 C iX10_kindOf_78 rfl (fun h78 => ?_) (fun h78 => absurd h78 (by decide))
          refine J_iload C iX10_kindOf_88 rfl ?_
          refine J_bipush 40 C iX10_kindOf_90 rfl ?_
          refine J_icmpeq 179 C iX10_kindOf_92 rfl (fun h92 => ?_) (fun h92 => ?_)
          · refine J_iload C iX10_kindOf_179 rfl ?_
            refine J_goto 186 C iX10_kindOf_181 rfl ?_
            exact J_iret C E iX10_kindOf_186 ⟨va, by rw [tkM, if_neg h10, if_neg (by rw [h50]; exact Bool.false_ne_true), if_neg (by rw [h21]; exact Bool.false_ne_true), syK, if_neg (fun q => h2q ⟨Or.inl q.2, q.1⟩), if_neg (fun q => h2q ⟨Or.inr q.2, q.1⟩)]; simp [symK, h92]; rfl, rfl, fun _ _ => rfl, fun q => by rw [tkM, if_neg h10, if_neg (by rw [h50]; exact Bool.false_ne_true), if_neg (by rw [h21]; exact Bool.false_ne_true)] at q; exact absurd q (not_or.mpr (sy_out _ _))⟩
          · refine J_iload C iX10_kindOf_95 rfl ?_
            refine J_bipush 41 C iX10_kindOf_97 rfl ?_
            refine J_icmpeq 179 C iX10_kindOf_99 rfl (fun h99 => ?_) (fun h99 => ?_)
            · refine J_iload C iX10_kindOf_179 rfl ?_
              refine J_goto 186 C iX10_kindOf_181 rfl ?_
              exact J_iret C E iX10_kindOf_186 ⟨va, by rw [tkM, if_neg h10, if_neg (by rw [h50]; exact Bool.false_ne_true), if_neg (by rw [h21]; exact Bool.false_ne_true), syK, if_neg (fun q => h2q ⟨Or.inl q.2, q.1⟩), if_neg (fun q => h2q ⟨Or.inr q.2, q.1⟩)]; simp [symK, h92, h99]; rfl, rfl, fun _ _ => rfl, fun q => by rw [tkM, if_neg h10, if_neg (by rw [h50]; exact Bool.false_ne_true), if_neg (by rw [h21]; exact Bool.false_ne_true)] at q; exact absurd q (not_or.mpr (sy_out _ _))⟩
            · refine J_iload C iX10_kindOf_102 rfl ?_
              refine J_bipush 91 C iX10_kindOf_104 rfl ?_
              refine J_icmpeq 179 C iX10_kindOf_106 rfl (fun h106 => ?_) (fun h106 => ?_)
              · refine J_iload C iX10_kindOf_179 rfl ?_
                refine J_goto 186 C iX10_kindOf_181 rfl ?_
                exact J_iret C E iX10_kindOf_186 ⟨va, by rw [tkM, if_neg h10, if_neg (by rw [h50]; exact Bool.false_ne_true), if_neg (by rw [h21]; exact Bool.false_ne_true), syK, if_neg (fun q => h2q ⟨Or.inl q.2, q.1⟩), if_neg (fun q => h2q ⟨Or.inr q.2, q.1⟩)]; simp [symK, h92, h99, h106]; rfl, rfl, fun _ _ => rfl, fun q => by rw [tkM, if_neg h10, if_neg (by rw [h50]; exact Bool.false_ne_true), if_neg (by rw [h21]; exact Bool.false_ne_true)] at q; exact absurd q (not_or.mpr (sy_out _ _))⟩
              · refine J_iload C iX10_kindOf_109 rfl ?_
                refine J_bipush 93 C iX10_kindOf_111 rfl ?_
                refine J_icmpeq 179 C iX10_kindOf_113 rfl (fun h113 => ?_) (fun h113 => ?_)
                · refine J_iload C iX10_kindOf_179 rfl ?_
                  refine J_goto 186 C iX10_kindOf_181 rfl ?_
                  exact J_iret C E iX10_kindOf_186 ⟨va, by rw [tkM, if_neg h10, if_neg (by rw [h50]; exact Bool.false_ne_true), if_neg (by rw [h21]; exact Bool.false_ne_true), syK, if_neg (fun q => h2q ⟨Or.inl q.2, q.1⟩), if_neg (fun q => h2q ⟨Or.inr q.2, q.1⟩)]; simp [symK, h92, h99, h106, h113]; rfl, rfl, fun _ _ => rfl, fun q => by rw [tkM, if_neg h10, if_neg (by rw [h50]; exact Bool.false_ne_true), if_neg (by rw [h21]; exact Bool.false_ne_true)] at q; exact absurd q (not_or.mpr (sy_out _ _))⟩
                · refine J_iload C iX10_kindOf_116 rfl ?_
                  refine J_bipush 59 C iX10_kindOf_118 rfl ?_
                  refine J_icmpeq 179 C iX10_kindOf_120 rfl (fun h120 => ?_) (fun h120 => ?_)
                  · refine J_iload C iX10_kindOf_179 rfl ?_
                    refine J_goto 186 C iX10_kindOf_181 rfl ?_
                    exact J_iret C E iX10_kindOf_186 ⟨va, by rw [tkM, if_neg h10, if_neg (by rw [h50]; exact Bool.false_ne_true), if_neg (by rw [h21]; exact Bool.false_ne_true), syK, if_neg (fun q => h2q ⟨Or.inl q.2, q.1⟩), if_neg (fun q => h2q ⟨Or.inr q.2, q.1⟩)]; simp [symK, h92, h99, h106, h113, h120]; rfl, rfl, fun _ _ => rfl, fun q => by rw [tkM, if_neg h10, if_neg (by rw [h50]; exact Bool.false_ne_true), if_neg (by rw [h21]; exact Bool.false_ne_true)] at q; exact absurd q (not_or.mpr (sy_out _ _))⟩
                  · refine J_iload C iX10_kindOf_123 rfl ?_
                    refine J_bipush 44 C iX10_kindOf_125 rfl ?_
                    refine J_icmpeq 179 C iX10_kindOf_127 rfl (fun h127 => ?_) (fun h127 => ?_)
                    · refine J_iload C iX10_kindOf_179 rfl ?_
                      refine J_goto 186 C iX10_kindOf_181 rfl ?_
                      exact J_iret C E iX10_kindOf_186 ⟨va, by rw [tkM, if_neg h10, if_neg (by rw [h50]; exact Bool.false_ne_true), if_neg (by rw [h21]; exact Bool.false_ne_true), syK, if_neg (fun q => h2q ⟨Or.inl q.2, q.1⟩), if_neg (fun q => h2q ⟨Or.inr q.2, q.1⟩)]; simp [symK, h92, h99, h106, h113, h120, h127]; rfl, rfl, fun _ _ => rfl, fun q => by rw [tkM, if_neg h10, if_neg (by rw [h50]; exact Bool.false_ne_true), if_neg (by rw [h21]; exact Bool.false_ne_true)] at q; exact absurd q (not_or.mpr (sy_out _ _))⟩
                    · refine J_iload C iX10_kindOf_130 rfl ?_
                      refine J_bipush 43 C iX10_kindOf_132 rfl ?_
                      refine J_icmpeq 179 C iX10_kindOf_134 rfl (fun h134 => ?_) (fun h134 => ?_)
                      · refine J_iload C iX10_kindOf_179 rfl ?_
                        refine J_goto 186 C iX10_kindOf_181 rfl ?_
                        exact J_iret C E iX10_kindOf_186 ⟨va, by rw [tkM, if_neg h10, if_neg (by rw [h50]; exact Bool.false_ne_true), if_neg (by rw [h21]; exact Bool.false_ne_true), syK, if_neg (fun q => h2q ⟨Or.inl q.2, q.1⟩), if_neg (fun q => h2q ⟨Or.inr q.2, q.1⟩)]; simp [symK, h92, h99, h106, h113, h120, h127, h134]; rfl, rfl, fun _ _ => rfl, fun q => by rw [tkM, if_neg h10, if_neg (by rw [h50]; exact Bool.false_ne_true), if_neg (by rw [h21]; exact Bool.false_ne_true)] at q; exact absurd q (not_or.mpr (sy_out _ _))⟩
                      · refine J_iload C iX10_kindOf_137 rfl ?_
                        refine J_bipush 45 C iX10_kindOf_139 rfl ?_
                        refine J_icmpeq 179 C iX10_kindOf_141 rfl (fun h141 => ?_) (fun h141 => ?_)
                        · refine J_iload C iX10_kindOf_179 rfl ?_
                          refine J_goto 186 C iX10_kindOf_181 rfl ?_
                          exact J_iret C E iX10_kindOf_186 ⟨va, by rw [tkM, if_neg h10, if_neg (by rw [h50]; exact Bool.false_ne_true), if_neg (by rw [h21]; exact Bool.false_ne_true), syK, if_neg (fun q => h2q ⟨Or.inl q.2, q.1⟩), if_neg (fun q => h2q ⟨Or.inr q.2, q.1⟩)]; simp [symK, h92, h99, h106, h113, h120, h127, h134, h141]; rfl, rfl, fun _ _ => rfl, fun q => by rw [tkM, if_neg h10, if_neg (by rw [h50]; exact Bool.false_ne_true), if_neg (by rw [h21]; exact Bool.false_ne_true)] at q; exact absurd q (not_or.mpr (sy_out _ _))⟩
                        · refine J_iload C iX10_kindOf_144 rfl ?_
                          refine J_bipush 42 C iX10_kindOf_146 rfl ?_
                          refine J_icmpeq 179 C iX10_kindOf_148 rfl (fun h148 => ?_) (fun h148 => ?_)
                          · refine J_iload C iX10_kindOf_179 rfl ?_
                            refine J_goto 186 C iX10_kindOf_181 rfl ?_
                            exact J_iret C E iX10_kindOf_186 ⟨va, by rw [tkM, if_neg h10, if_neg (by rw [h50]; exact Bool.false_ne_true), if_neg (by rw [h21]; exact Bool.false_ne_true), syK, if_neg (fun q => h2q ⟨Or.inl q.2, q.1⟩), if_neg (fun q => h2q ⟨Or.inr q.2, q.1⟩)]; simp [symK, h92, h99, h106, h113, h120, h127, h134, h141, h148]; rfl, rfl, fun _ _ => rfl, fun q => by rw [tkM, if_neg h10, if_neg (by rw [h50]; exact Bool.false_ne_true), if_neg (by rw [h21]; exact Bool.false_ne_true)] at q; exact absurd q (not_or.mpr (sy_out _ _))⟩
                          · refine J_iload C iX10_kindOf_151 rfl ?_
                            refine J_bipush 47 C iX10_kindOf_153 rfl ?_
                            refine J_icmpeq 179 C iX10_kindOf_155 rfl (fun h155 => ?_) (fun h155 => ?_)
                            · refine J_iload C iX10_kindOf_179 rfl ?_
                              refine J_goto 186 C iX10_kindOf_181 rfl ?_
                              exact J_iret C E iX10_kindOf_186 ⟨va, by rw [tkM, if_neg h10, if_neg (by rw [h50]; exact Bool.false_ne_true), if_neg (by rw [h21]; exact Bool.false_ne_true), syK, if_neg (fun q => h2q ⟨Or.inl q.2, q.1⟩), if_neg (fun q => h2q ⟨Or.inr q.2, q.1⟩)]; simp [symK, h92, h99, h106, h113, h120, h127, h134, h141, h148, h155]; rfl, rfl, fun _ _ => rfl, fun q => by rw [tkM, if_neg h10, if_neg (by rw [h50]; exact Bool.false_ne_true), if_neg (by rw [h21]; exact Bool.false_ne_true)] at q; exact absurd q (not_or.mpr (sy_out _ _))⟩
                            · refine J_iload C iX10_kindOf_158 rfl ?_
                              refine J_bipush 60 C iX10_kindOf_160 rfl ?_
                              refine J_icmpeq 179 C iX10_kindOf_162 rfl (fun h162 => ?_) (fun h162 => ?_)
                              · refine J_iload C iX10_kindOf_179 rfl ?_
                                refine J_goto 186 C iX10_kindOf_181 rfl ?_
                                exact J_iret C E iX10_kindOf_186 ⟨va, by rw [tkM, if_neg h10, if_neg (by rw [h50]; exact Bool.false_ne_true), if_neg (by rw [h21]; exact Bool.false_ne_true), syK, if_neg (fun q => h2q ⟨Or.inl q.2, q.1⟩), if_neg (fun q => h2q ⟨Or.inr q.2, q.1⟩)]; simp [symK, h92, h99, h106, h113, h120, h127, h134, h141, h148, h155, h162]; rfl, rfl, fun _ _ => rfl, fun q => by rw [tkM, if_neg h10, if_neg (by rw [h50]; exact Bool.false_ne_true), if_neg (by rw [h21]; exact Bool.false_ne_true)] at q; exact absurd q (not_or.mpr (sy_out _ _))⟩
                              · refine J_iload C iX10_kindOf_165 rfl ?_
                                refine J_bipush 62 C iX10_kindOf_167 rfl ?_
                                refine J_icmpeq 179 C iX10_kindOf_169 rfl (fun h169 => ?_) (fun h169 => ?_)
                                · refine J_iload C iX10_kindOf_179 rfl ?_
                                  refine J_goto 186 C iX10_kindOf_181 rfl ?_
                                  exact J_iret C E iX10_kindOf_186 ⟨va, by rw [tkM, if_neg h10, if_neg (by rw [h50]; exact Bool.false_ne_true), if_neg (by rw [h21]; exact Bool.false_ne_true), syK, if_neg (fun q => h2q ⟨Or.inl q.2, q.1⟩), if_neg (fun q => h2q ⟨Or.inr q.2, q.1⟩)]; simp [symK, h92, h99, h106, h113, h120, h127, h134, h141, h148, h155, h162, h169]; rfl, rfl, fun _ _ => rfl, fun q => by rw [tkM, if_neg h10, if_neg (by rw [h50]; exact Bool.false_ne_true), if_neg (by rw [h21]; exact Bool.false_ne_true)] at q; exact absurd q (not_or.mpr (sy_out _ _))⟩
                                · refine J_iload C iX10_kindOf_172 rfl ?_
                                  refine J_bipush 61 C iX10_kindOf_174 rfl ?_
                                  refine J_icmpne 184 C iX10_kindOf_176 rfl (fun h176 => ?_) (fun h176 => ?_)
                                  · refine J_bipush 32 C iX10_kindOf_184 rfl ?_
                                    exact J_iret C E iX10_kindOf_186 ⟨va, by rw [tkM, if_neg h10, if_neg (by rw [h50]; exact Bool.false_ne_true), if_neg (by rw [h21]; exact Bool.false_ne_true), syK, if_neg (fun q => h2q ⟨Or.inl q.2, q.1⟩), if_neg (fun q => h2q ⟨Or.inr q.2, q.1⟩)]; simp [symK, h92, h99, h106, h113, h120, h127, h134, h141, h148, h155, h162, h169, h176]; rfl, rfl, fun _ _ => rfl, fun q => by rw [tkM, if_neg h10, if_neg (by rw [h50]; exact Bool.false_ne_true), if_neg (by rw [h21]; exact Bool.false_ne_true)] at q; exact absurd q (not_or.mpr (sy_out _ _))⟩
                                  · refine J_iload C iX10_kindOf_179 rfl ?_
                                    refine J_goto 186 C iX10_kindOf_181 rfl ?_
                                    exact J_iret C E iX10_kindOf_186 ⟨va, by rw [tkM, if_neg h10, if_neg (by rw [h50]; exact Bool.false_ne_true), if_neg (by rw [h21]; exact Bool.false_ne_true), syK, if_neg (fun q => h2q ⟨Or.inl q.2, q.1⟩), if_neg (fun q => h2q ⟨Or.inr q.2, q.1⟩)]; simp [symK, h92, h99, h106, h113, h120, h127, h134, h141, h148, h155, h162, h169, h176]; rfl, rfl, fun _ _ => rfl, fun q => by rw [tkM, if_neg h10, if_neg (by rw [h50]; exact Bool.false_ne_true), if_neg (by rw [h21]; exact Bool.false_ne_true)] at q; exact absurd q (not_or.mpr (sy_out _ _))⟩
      · have hnl := wd_le (m := tz) (tb := tb) (s := s)
        refine J_lvm [(4, .int (sgN tz tb s)), (0, .ref (mo 0)), (1, .int (nI x)), (2, .int (nI s)), (3, .int (nI (s + wdL tz tb s)))] (by rw [endP_l h50]; rfl) ?_
        refine J_iload_n C iX10_kindOf_53 rfl rfl ?_
        refine J_iload_n C iX10_kindOf_54 rfl rfl ?_
        refine J_isub C iX10_kindOf_55 ?_
        rw [show (nI (s + wdL tz tb s)) - (nI s) = nI (wdL tz tb s) from sub_nI _ _]
        refine J_bipush 10 C iX10_kindOf_56 rfl ?_
        by_cases hs58 : (wdL tz tb s) ≤ 10
        · refine J_icmple 66 C iX10_kindOf_58 rfl (fun h58 => ?_) (fun h58 => absurd (nI_le (a := (wdL tz tb s)) (b := 10) (by omega) (by omega)) h58)
          refine J_aload_n C iX10_kindOf_66 rfl rfl ?_
          refine J_iload_n C iX10_kindOf_67 rfl rfl ?_
          refine J_iload_n C iX10_kindOf_68 rfl rfl ?_
          refine J_iload_n C iX10_kindOf_69 rfl rfl ?_
          have hw0 := word_ne (m := tz) (tb := tb) (s := s) hs58 (wd_pos hs h50) (fun j hj => wd_in hj)
          refine J_cV (As := [.int (nI x), .int (nI s), .int (nI (s + wdL tz tb s))]) (st := []) (rc2 := (rmK 7).cells) (rs2 := (rmK 7).slots) C iX10_kindOf_70 lm_X10_232 yc_X10_wordAt yv_X10_wordAt (c_X10_wordAt htz htp hx hs hs58 hw0 (fun j hj => wd_in hj)) (q0 := 0) rfl rfl rfl rfl (rmK_le (by omega) (by decide)) (Nat.le_of_ble_eq_true rfl) rfl rfl ?_
          rintro _ _ ⟨rfl, rfl⟩
          refine J_st (.int (km ((kwO (wVal tz tb s (wdL tz tb s))).getD 39)) :: []) rfl ?_
          exact J_iret C E iX10_kindOf_73 ⟨_, by rw [tkM, if_neg h10, if_pos h50, wdK, if_pos hs58], rfl, fun j hj => by simp [vp_updL, hj], fun q => by rw [tkM, if_neg h10, if_pos h50, wdK, if_pos hs58] at q; rw [tkVM, if_pos h50, wdV, if_pos hs58]; cases hkw : kwO (wVal tz tb s (wdL tz tb s)) with | none => simp [vp_updL] | some k9 => (have h24 := kw_lt hkw hw0; rw [hkw] at q; have q2 : k9 = 39 ∨ k9 = 40 := q; omega)⟩
        · refine J_icmple 66 C iX10_kindOf_58 rfl (fun h58 => absurd h58 (nI_ge (a := 10) (b := (wdL tz tb s)) (by omega) (by omega))) (fun h58 => ?_)
          refine J_bipush 32 C iX10_kindOf_61 rfl ?_
          refine J_goto 73 C iX10_kindOf_63 rfl ?_
          exact J_iret C E iX10_kindOf_73 ⟨va, by rw [tkM, if_neg h10, if_pos h50, wdK, if_neg (by omega)]; rfl, rfl, fun _ _ => rfl, fun q => by rw [tkM, if_neg h10, if_pos h50, wdK, if_neg (by omega)] at q; exact absurd q (by decide)⟩
    · have hnl := nm_le (m := tz) (tb := tb) (s := s)
      refine J_lvm [(4, .int (sgN tz tb s)), (0, .ref (mo 0)), (1, .int (nI x)), (2, .int (nI s)), (3, .int (nI (s + nmL tz tb s)))] (by rw [endP_d h21]; rfl) ?_
      refine J_iload_n C iX10_kindOf_24 rfl rfl ?_
      refine J_iload_n C iX10_kindOf_25 rfl rfl ?_
      refine J_isub C iX10_kindOf_26 ?_
      rw [show (nI (s + nmL tz tb s)) - (nI s) = nI (nmL tz tb s) from sub_nI _ _]
      refine J_bipush 6 C iX10_kindOf_27 rfl ?_
      by_cases hs29 : (nmL tz tb s) ≤ 6
      · refine J_icmple 37 C iX10_kindOf_29 rfl (fun h29 => ?_) (fun h29 => absurd (nI_le (a := (nmL tz tb s)) (b := 6) (by omega) (by omega)) h29)
        refine J_aload_n C iX10_kindOf_37 rfl rfl ?_
        refine J_iload_n C iX10_kindOf_38 rfl rfl ?_
        refine J_iload_n C iX10_kindOf_39 rfl rfl ?_
        refine J_iload_n C iX10_kindOf_40 rfl rfl ?_
        refine J_cV (As := [.int (nI x), .int (nI s), .int (nI (s + nmL tz tb s))]) (st := []) (rc2 := (rmK 7).cells) (rs2 := (rmK 7).slots) C iX10_kindOf_41 lm_X10_229 yc_X10_numberAt yv_X10_numberAt (c_X10_numberAt htz htp hx hs hs29 (fun j hj => nm_in hj)) (q0 := 0) rfl rfl rfl rfl (rmK_le (by omega) (by decide)) (Nat.le_of_ble_eq_true rfl) rfl rfl ?_
        rintro _ _ ⟨rfl, rfl⟩
        refine J_st (.int 31 :: []) rfl ?_
        exact J_iret C E iX10_kindOf_44 ⟨_, by rw [tkM, if_neg h10, if_neg (fun e => by rw [let_dig e] at h21; exact Bool.false_ne_true h21), if_pos h21, nmK, if_pos hs29]; rfl, rfl, fun j hj => by simp [vp_updL, hj], fun _ => by rw [tkVM, if_neg (fun e => by rw [let_dig e] at h21; exact Bool.false_ne_true h21), nmV, if_pos hs29, num_ok hs29 (fun j hj => nm_in hj)]; simp [vp_updL]⟩
      · refine J_icmple 37 C iX10_kindOf_29 rfl (fun h29 => absurd h29 (nI_ge (a := 6) (b := (nmL tz tb s)) (by omega) (by omega))) (fun h29 => ?_)
        refine J_bipush 32 C iX10_kindOf_32 rfl ?_
        refine J_goto 44 C iX10_kindOf_34 rfl ?_
        exact J_iret C E iX10_kindOf_44 ⟨va, by rw [tkM, if_neg h10, if_neg (fun e => by rw [let_dig e] at h21; exact Bool.false_ne_true h21), if_pos h21, nmK, if_neg (by omega)]; rfl, rfl, fun _ _ => rfl, fun q => by rw [tkM, if_neg h10, if_neg (fun e => by rw [let_dig e] at h21; exact Bool.false_ne_true h21), if_pos h21, nmK, if_neg (by omega)] at q; exact absurd q (by decide)⟩
  · refine J_bipush 33 C iX10_kindOf_13 rfl ?_
    exact J_iret C E iX10_kindOf_15 ⟨va, by rw [tkM, if_pos h10]; rfl, rfl, fun _ _ => rfl, fun q => by rw [tkM, if_pos h10] at q; exact absurd q (by decide)⟩

