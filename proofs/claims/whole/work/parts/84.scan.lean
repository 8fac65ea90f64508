set_option maxRecDepth 100000 in
set_option maxHeartbeats 4000000 in
theorem c_X10_byteOf {Z : GZ} {l : Launch} {mo pl : Nat → Nat} {th ea tk dp lr dy ca : Int32} {kn : Bool} {va : Nat → Int64} {tp kd fr me wo pc ht fs la kh kf kl sh dk sk : Nat → Int32} {tz : Nat} {tb : Nat → Int32} (htz : tz ≤ 2000) (htp : ∀ p, p < tz → tp p = sgN tz tb p) {p : Nat} (hp : p < 1000000)  : Ct Z l yX10_byteOf cX10_byteOf 2 (some .int) (rmK 0) [.ref (mo 0), .int (nI p)] (wMd Z mo pl th (nI tz) ea tk dp lr dy ca kn tp kd fr me va wo pc ht fs la kh kf kl sh dk sk) (fun v w => v = some (.int (sgN tz tb p)) ∧ w = (wMd Z mo pl th (nI tz) ea tk dp lr dy ca kn tp kd fr me va wo pc ht fs la kh kf kl sh dk sk)) := by
  refine Ct.ofJ (own := RX10) (nm := "byteOf") (lv0 := [(0, .ref (mo 0)), (1, .int (nI p))]) (by decide) rfl rfl (Nat.le_of_ble_eq_true rfl) rfl (fun X hXl C E => ?_)
  subst hXl
  refine J_iload_n C iX10_byteOf_0 rfl rfl ?_
  refine J_aload_n C iX10_byteOf_1 rfl rfl ?_
  refine J_get (.int (nI tz)) 0 C iX10_byteOf_2 gf_X10_217 rfl rfl ?_
  by_cases hs5 : tz ≤ p
  · refine J_icmpge 17 C iX10_byteOf_5 rfl (fun h5 => ?_) (fun h5 => absurd (nI_le (a := tz) (b := p) (by omega) (by omega)) h5)
    refine J_iconst (-1) C iX10_byteOf_17 rfl ?_
    exact J_iret C E iX10_byteOf_18 ⟨by rw [sg_out (by omega) (by omega)], rfl⟩
  · refine J_icmpge 17 C iX10_byteOf_5 rfl (fun h5 => absurd h5 (nI_ge (a := p) (b := tz) (by omega) (by omega))) (fun h5 => ?_)
    refine J_aload_n C iX10_byteOf_8 rfl rfl ?_
    refine J_get (.ref (mo 1)) 0 C iX10_byteOf_9 gf_X10_9 rfl rfl ?_
    refine J_iload_n C iX10_byteOf_12 rfl rfl ?_
    refine J_iald 1 C iX10_byteOf_13 rfl (vp_in_nI (n := p) (by omega) (by decide)) ?_
    rw [nI_clamp (n := p) (by omega)]
    refine J_goto 18 C iX10_byteOf_14 rfl ?_
    exact J_iret C E iX10_byteOf_18 ⟨by rw [htp p (by omega)], rfl⟩

set_option maxRecDepth 100000 in
set_option maxHeartbeats 4000000 in
theorem c_X10_endOf {Z : GZ} {l : Launch} {mo pl : Nat → Nat} {th ea tk dp lr dy ca : Int32} {kn : Bool} {va : Nat → Int64} {tp kd fr me wo pc ht fs la kh kf kl sh dk sk : Nat → Int32} {tz : Nat} {tb : Nat → Int32} (htz : tz ≤ 2000) (htp : ∀ p, p < tz → tp p = sgN tz tb p) {s : Nat} (hs : s ≤ 2000)  : Ct Z l yX10_endOf cX10_endOf 4 (some .int) (rmK 1) [.ref (mo 0), .int (nI s)] (wMd Z mo pl th (nI tz) ea tk dp lr dy ca kn tp kd fr me va wo pc ht fs la kh kf kl sh dk sk) (fun v w => v = some (.int (nI (endP tz tb s))) ∧ w = (wMd Z mo pl th (nI tz) ea tk dp lr dy ca kn tp kd fr me va wo pc ht fs la kh kf kl sh dk sk)) := by
  refine Ct.ofJ (own := RX10) (nm := "endOf") (lv0 := [(0, .ref (mo 0)), (1, .int (nI s))]) (by decide) rfl rfl (Nat.le_of_ble_eq_true rfl) rfl (fun X hXl C E => ?_)
  subst hXl
  refine J_aload_n C iX10_endOf_0 rfl rfl ?_
  refine J_iload_n C iX10_endOf_1 rfl rfl ?_
  refine J_cV (As := [.int (nI s)]) (st := []) (rc2 := (rmK 1).cells) (rs2 := (rmK 1).slots) C iX10_endOf_2 lm_X10_220 yc_X10_byteOf yv_X10_byteOf (c_X10_byteOf htz htp (p := s) (by omega)) (q0 := 0) rfl rfl rfl rfl (rmK_le (by omega) (by decide)) (Nat.le_of_ble_eq_true rfl) rfl rfl ?_
  rintro _ _ ⟨rfl, rfl⟩
  refine J_st (.int (sgN tz tb s) :: []) rfl ?_
  refine J_istore_n [(2, .int (sgN tz tb s)), (0, .ref (mo 0)), (1, .int (nI s))] C iX10_endOf_5 rfl (by decide) rfl ?_
  refine J_iload_n C iX10_endOf_6 rfl rfl ?_
  refine J_iconst 1 C iX10_endOf_7 rfl ?_
  refine J_iadd C iX10_endOf_8 ?_
  rw [show (nI s) + 1 = nI (s + 1) from nI_add _ _]
  refine J_istore_n [(3, .int (nI (s + 1))), (2, .int (sgN tz tb s)), (0, .ref (mo 0)), (1, .int (nI s))] C iX10_endOf_9 rfl (by decide) rfl ?_
  refine J_iload_n C iX10_endOf_10 rfl rfl ?_
  refine J_cSp (As := [.int (sgN tz tb s)]) (st := []) C iX10_endOf_11 lm_X10_223 yc_X10_isSmall ys_X10_isSmall (c_X10_isSmall (b := sgN tz tb s)) rfl (rmK_le (by omega) (by decide)) (Nat.le_of_ble_eq_true rfl) ⟨rfl, rfl⟩ ?_
  rintro _ rfl
  refine J_st (.int (b2i (isLet (sgN tz tb s))) :: []) rfl ?_
  refine J_ifeqb 45 C iX10_endOf_14 rfl (fun h14 => ?_) (fun h14 => ?_)
  · refine J_iload_n C iX10_endOf_45 rfl rfl ?_
    refine J_cSp (As := [.int (sgN tz tb s)]) (st := []) C iX10_endOf_46 lm_X10_226 yc_X10_isDigit ys_X10_isDigit (c_X10_isDigit (b := sgN tz tb s)) rfl (rmK_le (by omega) (by decide)) (Nat.le_of_ble_eq_true rfl) ⟨rfl, rfl⟩ ?_
    rintro _ rfl
    refine J_st (.int (b2i (isDig (sgN tz tb s))) :: []) rfl ?_
    refine J_ifeqb 69 C iX10_endOf_49 rfl (fun h49 => ?_) (fun h49 => ?_)
    · refine J_iload_n C iX10_endOf_69 rfl rfl ?_
      refine J_bipush 60 C iX10_endOf_70 rfl ?_
      refine J_icmpeq 81 C iX10_endOf_72 rfl (fun h72 => ?_) (fun h72 => ?_)
      · refine J_aload_n C iX10_endOf_81 rfl rfl ?_
        refine J_iload_n C iX10_endOf_82 rfl rfl ?_
        refine J_cV (As := [.int (nI (s + 1))]) (st := []) (rc2 := (rmK 1).cells) (rs2 := (rmK 1).slots) C iX10_endOf_83 lm_X10_220 yc_X10_byteOf yv_X10_byteOf (c_X10_byteOf htz htp (p := (s + 1)) (by omega)) (q0 := 0) rfl rfl rfl rfl (rmK_le (by omega) (by decide)) (Nat.le_of_ble_eq_true rfl) rfl rfl ?_
        rintro _ _ ⟨rfl, rfl⟩
        refine J_st (.int (sgN tz tb (s + 1)) :: []) rfl ?_
        refine J_bipush 61 C iX10_endOf_86 rfl ?_
        refine J_icmpne 94 C iX10_endOf_88 rfl (fun h88 => ?_) (fun h88 => ?_)
        · refine J_iload_n C iX10_endOf_94 rfl rfl ?_
          exact J_iret C E iX10_endOf_95 ⟨by rw [endP_1 h14 h49 (by first | exact fun q => h88 q.2 | exact fun q => q.1.elim h72 h78)], rfl⟩
        · refine J_iinc ((nI (s + 1)) + 1) [(3, .int ((nI (s + 1)) + 1)), (2, .int (sgN tz tb s)), (0, .ref (mo 0)), (1, .int (nI s))] C iX10_endOf_91 rfl rfl (by decide) rfl ?_
          rw [show (nI (s + 1)) + 1 = nI ((s + 1) + 1) from nI_add _ _]
          refine J_iload_n C iX10_endOf_94 rfl rfl ?_
          exact J_iret C E iX10_endOf_95 ⟨by rw [endP_2 h14 h49 ⟨by first | exact Or.inl h72 | exact Or.inr h78, h88⟩], rfl⟩
      · refine J_iload_n C iX10_endOf_75 rfl rfl ?_
        refine J_bipush 62 C iX10_endOf_76 rfl ?_
        refine J_icmpne 94 C iX10_endOf_78 rfl (fun h78 => ?_) (fun h78 => ?_)
        · refine J_iload_n C iX10_endOf_94 rfl rfl ?_
          exact J_iret C E iX10_endOf_95 ⟨by rw [endP_1 h14 h49 (by first | exact fun q => h88 q.2 | exact fun q => q.1.elim h72 h78)], rfl⟩
        · refine J_aload_n C iX10_endOf_81 rfl rfl ?_
          refine J_iload_n C iX10_endOf_82 rfl rfl ?_
          refine J_cV (As := [.int (nI (s + 1))]) (st := []) (rc2 := (rmK 1).cells) (rs2 := (rmK 1).slots) C iX10_endOf_83 lm_X10_220 yc_X10_byteOf yv_X10_byteOf (c_X10_byteOf htz htp (p := (s + 1)) (by omega)) (q0 := 0) rfl rfl rfl rfl (rmK_le (by omega) (by decide)) (Nat.le_of_ble_eq_true rfl) rfl rfl ?_
          rintro _ _ ⟨rfl, rfl⟩
          refine J_st (.int (sgN tz tb (s + 1)) :: []) rfl ?_
          refine J_bipush 61 C iX10_endOf_86 rfl ?_
          refine J_icmpne 94 C iX10_endOf_88 rfl (fun h88 => ?_) (fun h88 => ?_)
          · refine J_iload_n C iX10_endOf_94 rfl rfl ?_
            exact J_iret C E iX10_endOf_95 ⟨by rw [endP_1 h14 h49 (by first | exact fun q => h88 q.2 | exact fun q => q.1.elim h72 h78)], rfl⟩
          · refine J_iinc ((nI (s + 1)) + 1) [(3, .int ((nI (s + 1)) + 1)), (2, .int (sgN tz tb s)), (0, .ref (mo 0)), (1, .int (nI s))] C iX10_endOf_91 rfl rfl (by decide) rfl ?_
            rw [show (nI (s + 1)) + 1 = nI ((s + 1) + 1) from nI_add _ _]
            refine J_iload_n C iX10_endOf_94 rfl rfl ?_
            exact J_iret C E iX10_endOf_95 ⟨by rw [endP_2 h14 h49 ⟨by first | exact Or.inl h72 | exact Or.inr h78, h88⟩], rfl⟩
    · have hwp := nm_pos (m := tz) (tb := tb) hs h49
      refine J_lvm [(3, .int (nI (s + 1))), (2, .int (sgN tz tb s)), (1, .int (nI s)), (0, .ref (mo 0))] rfl ?_
      refine J_for (fun k => [(3, .int (nI (s + k))), (2, .int (sgN tz tb s)), (1, .int (nI s)), (0, .ref (mo 0))]) (fun k => (wMd Z mo pl th (nI tz) ea tk dp lr dy ca kn tp kd fr me va wo pc ht fs la kh kf kl sh dk sk)) (nmL tz tb s) 1 (by omega) ?_ (fun k hk0 hk ih => ?_)
      · have hwl := nm_le (m := tz) (tb := tb) (s := s)
        refine J_aload_n C iX10_endOf_52 rfl rfl ?_
        refine J_iload_n C iX10_endOf_53 rfl rfl ?_
        refine J_cV (As := [.int (nI (s + (nmL tz tb s)))]) (st := []) (rc2 := (rmK 1).cells) (rs2 := (rmK 1).slots) C iX10_endOf_54 lm_X10_220 yc_X10_byteOf yv_X10_byteOf (c_X10_byteOf htz htp (p := (s + (nmL tz tb s))) (by omega)) (q0 := 0) rfl rfl rfl rfl (rmK_le (by omega) (by decide)) (Nat.le_of_ble_eq_true rfl) rfl rfl ?_
        rintro _ _ ⟨rfl, rfl⟩
        refine J_st (.int (sgN tz tb (s + (nmL tz tb s))) :: []) rfl ?_
        refine J_cSp (As := [.int (sgN tz tb (s + (nmL tz tb s)))]) (st := []) C iX10_endOf_57 lm_X10_226 yc_X10_isDigit ys_X10_isDigit (c_X10_isDigit (b := sgN tz tb (s + (nmL tz tb s)))) rfl (rmK_le (by omega) (by decide)) (Nat.le_of_ble_eq_true rfl) ⟨rfl, rfl⟩ ?_
        rintro _ rfl
        refine J_st (.int (b2i (isDig (sgN tz tb (s + (nmL tz tb s))))) :: []) rfl ?_
        refine J_ifeqb 69 C iX10_endOf_60 rfl (fun h60 => ?_) (fun h60 => absurd (h60.symm.trans (nm_out htz hs)) (by decide))
        refine J_iload_n C iX10_endOf_69 rfl rfl ?_
        refine J_bipush 60 C iX10_endOf_70 rfl ?_
        refine J_icmpeq 81 C iX10_endOf_72 rfl (fun h72 => absurd h72 (fun e => by rw [e] at h49; exact absurd h49 (by decide))) (fun h72 => ?_)
        refine J_iload_n C iX10_endOf_75 rfl rfl ?_
        refine J_bipush 62 C iX10_endOf_76 rfl ?_
        refine J_icmpne 94 C iX10_endOf_78 rfl (fun h78 => ?_) (fun h78 => absurd h78 (fun e => by rw [e] at h49; exact absurd h49 (by decide)))
        refine J_iload_n C iX10_endOf_94 rfl rfl ?_
        exact J_iret C E iX10_endOf_95 ⟨by rw [endP_d h49], rfl⟩
      · have hwl := nm_le (m := tz) (tb := tb) (s := s)
        refine J_aload_n C iX10_endOf_52 rfl rfl ?_
        refine J_iload_n C iX10_endOf_53 rfl rfl ?_
        refine J_cV (As := [.int (nI (s + k))]) (st := []) (rc2 := (rmK 1).cells) (rs2 := (rmK 1).slots) C iX10_endOf_54 lm_X10_220 yc_X10_byteOf yv_X10_byteOf (c_X10_byteOf htz htp (p := (s + k)) (by omega)) (q0 := 0) rfl rfl rfl rfl (rmK_le (by omega) (by decide)) (Nat.le_of_ble_eq_true rfl) rfl rfl ?_
        rintro _ _ ⟨rfl, rfl⟩
        refine J_st (.int (sgN tz tb (s + k)) :: []) rfl ?_
        refine J_cSp (As := [.int (sgN tz tb (s + k))]) (st := []) C iX10_endOf_57 lm_X10_226 yc_X10_isDigit ys_X10_isDigit (c_X10_isDigit (b := sgN tz tb (s + k))) rfl (rmK_le (by omega) (by decide)) (Nat.le_of_ble_eq_true rfl) ⟨rfl, rfl⟩ ?_
        rintro _ rfl
        refine J_st (.int (b2i (isDig (sgN tz tb (s + k)))) :: []) rfl ?_
        refine J_ifeqb 69 C iX10_endOf_60 rfl (fun h60 => absurd (h60.symm.trans (nm_in hk)) (by decide)) (fun h60 => ?_)
        refine J_iinc ((nI (s + k)) + 1) [(3, .int ((nI (s + k)) + 1)), (2, .int (sgN tz tb s)), (1, .int (nI s)), (0, .ref (mo 0))] C iX10_endOf_63 rfl rfl (by decide) rfl ?_
        rw [show (nI (s + k)) + 1 = nI ((s + k) + 1) from nI_add _ _]
        refine J_goto 52 C iX10_endOf_66 rfl ?_
        refine J_lvm [(3, .int (nI ((s + k) + 1))), (2, .int (sgN tz tb s)), (1, .int (nI s)), (0, .ref (mo 0))] rfl ?_
        exact ih
  · have hwp := wd_pos (m := tz) (tb := tb) hs h14
    refine J_lvm [(3, .int (nI (s + 1))), (2, .int (sgN tz tb s)), (1, .int (nI s)), (0, .ref (mo 0))] rfl ?_
    refine J_for (fun k => [(3, .int (nI (s + k))), (2, .int (sgN tz tb s)), (1, .int (nI s)), (0, .ref (mo 0))]) (fun k => (wMd Z mo pl th (nI tz) ea tk dp lr dy ca kn tp kd fr me va wo pc ht fs la kh kf kl sh dk sk)) (wdL tz tb s) 1 (by omega) ?_ (fun k hk0 hk ih => ?_)
    · have hwl := wd_le (m := tz) (tb := tb) (s := s)
      refine J_aload_n C iX10_endOf_17 rfl rfl ?_
      refine J_iload_n C iX10_endOf_18 rfl rfl ?_
      refine J_cV (As := [.int (nI (s + (wdL tz tb s)))]) (st := []) (rc2 := (rmK 1).cells) (rs2 := (rmK 1).slots) C iX10_endOf_19 lm_X10_220 yc_X10_byteOf yv_X10_byteOf (c_X10_byteOf htz htp (p := (s + (wdL tz tb s))) (by omega)) (q0 := 0) rfl rfl rfl rfl (rmK_le (by omega) (by decide)) (Nat.le_of_ble_eq_true rfl) rfl rfl ?_
      rintro _ _ ⟨rfl, rfl⟩
      refine J_st (.int (sgN tz tb (s + (wdL tz tb s))) :: []) rfl ?_
      refine J_cSp (As := [.int (sgN tz tb (s + (wdL tz tb s)))]) (st := []) C iX10_endOf_22 lm_X10_223 yc_X10_isSmall ys_X10_isSmall (c_X10_isSmall (b := sgN tz tb (s + (wdL tz tb s)))) rfl (rmK_le (by omega) (by decide)) (Nat.le_of_ble_eq_true rfl) ⟨rfl, rfl⟩ ?_
      rintro _ rfl
      refine J_st (.int (b2i (isLet (sgN tz tb (s + (wdL tz tb s))))) :: []) rfl ?_
      refine J_ifneb 39 C iX10_endOf_25 rfl (fun h25 => absurd (h25.symm.trans (or_ff (wd_out htz hs)).1) (by decide)) (fun h25 => ?_)
      refine J_aload_n C iX10_endOf_28 rfl rfl ?_
      refine J_iload_n C iX10_endOf_29 rfl rfl ?_
      refine J_cV (As := [.int (nI (s + (wdL tz tb s)))]) (st := []) (rc2 := (rmK 1).cells) (rs2 := (rmK 1).slots) C iX10_endOf_30 lm_X10_220 yc_X10_byteOf yv_X10_byteOf (c_X10_byteOf htz htp (p := (s + (wdL tz tb s))) (by omega)) (q0 := 0) rfl rfl rfl rfl (rmK_le (by omega) (by decide)) (Nat.le_of_ble_eq_true rfl) rfl rfl ?_
      rintro _ _ ⟨rfl, rfl⟩
      refine J_st (.int (sgN tz tb (s + (wdL tz tb s))) :: []) rfl ?_
      refine J_cSp (As := [.int (sgN tz tb (s + (wdL tz tb s)))]) (st := []) C iX10_endOf_33 lm_X10_226 yc_X10_isDigit ys_X10_isDigit (c_X10_isDigit (b := sgN tz tb (s + (wdL tz tb s)))) rfl (rmK_le (by omega) (by decide)) (Nat.le_of_ble_eq_true rfl) ⟨rfl, rfl⟩ ?_
      rintro _ rfl
      refine J_st (.int (b2i (isDig (sgN tz tb (s + (wdL tz tb s))))) :: []) rfl ?_
      refine J_ifeqb 45 C iX10_endOf_36 rfl (fun h36 => ?_) (fun h36 => absurd (h36.symm.trans (or_ff (wd_out htz hs)).2) (by decide))
      refine J_iload_n C iX10_endOf_45 rfl rfl ?_
      refine J_cSp (As := [.int (sgN tz tb s)]) (st := []) C iX10_endOf_46 lm_X10_226 yc_X10_isDigit ys_X10_isDigit (c_X10_isDigit (b := sgN tz tb s)) rfl (rmK_le (by omega) (by decide)) (Nat.le_of_ble_eq_true rfl) ⟨rfl, rfl⟩ ?_
      rintro _ rfl
      refine J_st (.int (b2i (isDig (sgN tz tb s))) :: []) rfl ?_
      refine J_ifeqb 69 C iX10_endOf_49 rfl (fun h49 => ?_) (fun h49 => absurd (h49.symm.trans (let_dig h14)) (by decide))
      refine J_iload_n C iX10_endOf_69 rfl rfl ?_
      refine J_bipush 60 C iX10_endOf_70 rfl ?_
      refine J_icmpeq 81 C iX10_endOf_72 rfl (fun h72 => absurd h72 (fun e => by rw [e] at h14; exact absurd h14 (by decide))) (fun h72 => ?_)
      refine J_iload_n C iX10_endOf_75 rfl rfl ?_
      refine J_bipush 62 C iX10_endOf_76 rfl ?_
      refine J_icmpne 94 C iX10_endOf_78 rfl (fun h78 => ?_) (fun h78 => absurd h78 (fun e => by rw [e] at h14; exact absurd h14 (by decide)))
      refine J_iload_n C iX10_endOf_94 rfl rfl ?_
      exact J_iret C E iX10_endOf_95 ⟨by rw [endP_l h14], rfl⟩
    · have hwl := wd_le (m := tz) (tb := tb) (s := s)
      refine J_aload_n C iX10_endOf_17 rfl rfl ?_
      refine J_iload_n C iX10_endOf_18 rfl rfl ?_
      refine J_cV (As := [.int (nI (s + k))]) (st := []) (rc2 := (rmK 1).cells) (rs2 := (rmK 1).slots) C iX10_endOf_19 lm_X10_220 yc_X10_byteOf yv_X10_byteOf (c_X10_byteOf htz htp (p := (s + k)) (by omega)) (q0 := 0) rfl rfl rfl rfl (rmK_le (by omega) (by decide)) (Nat.le_of_ble_eq_true rfl) rfl rfl ?_
      rintro _ _ ⟨rfl, rfl⟩
      refine J_st (.int (sgN tz tb (s + k)) :: []) rfl ?_
      refine J_cSp (As := [.int (sgN tz tb (s + k))]) (st := []) C iX10_endOf_22 lm_X10_223 yc_X10_isSmall ys_X10_isSmall (c_X10_isSmall (b := sgN tz tb (s + k))) rfl (rmK_le (by omega) (by decide)) (Nat.le_of_ble_eq_true rfl) ⟨rfl, rfl⟩ ?_
      rintro _ rfl
      refine J_st (.int (b2i (isLet (sgN tz tb (s + k)))) :: []) rfl ?_
      refine J_ifneb 39 C iX10_endOf_25 rfl (fun h25 => ?_) (fun h25 => ?_)
      · refine J_iinc ((nI (s + k)) + 1) [(3, .int ((nI (s + k)) + 1)), (2, .int (sgN tz tb s)), (1, .int (nI s)), (0, .ref (mo 0))] C iX10_endOf_39 rfl rfl (by decide) rfl ?_
        rw [show (nI (s + k)) + 1 = nI ((s + k) + 1) from nI_add _ _]
        refine J_goto 17 C iX10_endOf_42 rfl ?_
        refine J_lvm [(3, .int (nI ((s + k) + 1))), (2, .int (sgN tz tb s)), (1, .int (nI s)), (0, .ref (mo 0))] rfl ?_
        exact ih
      · refine J_aload_n C iX10_endOf_28 rfl rfl ?_
        refine J_iload_n C iX10_endOf_29 rfl rfl ?_
        refine J_cV (As := [.int (nI (s + k))]) (st := []) (rc2 := (rmK 1).cells) (rs2 := (rmK 1).slots) C iX10_endOf_30 lm_X10_220 yc_X10_byteOf yv_X10_byteOf (c_X10_byteOf htz htp (p := (s + k)) (by omega)) (q0 := 0) rfl rfl rfl rfl (rmK_le (by omega) (by decide)) (Nat.le_of_ble_eq_true rfl) rfl rfl ?_
        rintro _ _ ⟨rfl, rfl⟩
        refine J_st (.int (sgN tz tb (s + k)) :: []) rfl ?_
        refine J_cSp (As := [.int (sgN tz tb (s + k))]) (st := []) C iX10_endOf_33 lm_X10_226 yc_X10_isDigit ys_X10_isDigit (c_X10_isDigit (b := sgN tz tb (s + k))) rfl (rmK_le (by omega) (by decide)) (Nat.le_of_ble_eq_true rfl) ⟨rfl, rfl⟩ ?_
        rintro _ rfl
        refine J_st (.int (b2i (isDig (sgN tz tb (s + k)))) :: []) rfl ?_
        refine J_ifeqb 45 C iX10_endOf_36 rfl (fun h36 => absurd (h36.symm.trans (or_t2 (wd_in hk) h25)) (by decide)) (fun h36 => ?_)
        refine J_iinc ((nI (s + k)) + 1) [(3, .int ((nI (s + k)) + 1)), (2, .int (sgN tz tb s)), (1, .int (nI s)), (0, .ref (mo 0))] C iX10_endOf_39 rfl rfl (by decide) rfl ?_
        rw [show (nI (s + k)) + 1 = nI ((s + k) + 1) from nI_add _ _]
        refine J_goto 17 C iX10_endOf_42 rfl ?_
        refine J_lvm [(3, .int (nI ((s + k) + 1))), (2, .int (sgN tz tb s)), (1, .int (nI s)), (0, .ref (mo 0))] rfl ?_
        exact ih

