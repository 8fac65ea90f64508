set_option maxRecDepth 100000 in
set_option maxHeartbeats 4000000 in
theorem c_X10_find {Z : GZ} {l : Launch} {pn : Nat → Nat} {ls mn : Int32} {hn : Nat → Int64} {ha hh dz wh bg en od wi al : Nat → Int32} {m : Nat} {q : Int64} (hm : m ≤ 12)  : Ct Z l yX10_find cX10_find 4 (some .int) (rmK 0) [.ref (pn 0), .long q] (wPl Z pn (nI m) ls mn hn ha hh dz wh bg en od wi al) (fun v w => v = some (.int (hnF hn q m)) ∧ w = (wPl Z pn (nI m) ls mn hn ha hh dz wh bg en od wi al)) := by
  refine Ct.ofJ (own := RX10) (nm := "find") (lv0 := [(0, .ref (pn 0)), (1, .long q)]) (by decide) rfl rfl (Nat.le_of_ble_eq_true rfl) rfl (fun X hXl C E => ?_)
  subst hXl
  refine J_iconst 0 C iX10_find_0 rfl ?_
  refine J_istore_n [(3, .int 0), (0, .ref (pn 0)), (1, .long q)] C iX10_find_1 rfl (by decide) rfl ?_
  refine J_lvm [(3, .int 0), (0, .ref (pn 0)), (1, .long q)] rfl ?_
  refine J_forP (fun k => [(3, .int (nI k)), (0, .ref (pn 0)), (1, .long q)]) (fun k => (wPl Z pn (nI m) ls mn hn ha hh dz wh bg en od wi al)) (fun k => ∀ j, j < k → ¬ hn j = q) m 0 (by omega) (fun _ h => absurd h (Nat.not_lt_zero _)) (fun hI => ?_) (fun k hk0 hk hI ih => ?_)
  · refine J_iload_n C iX10_find_2 rfl rfl ?_
    refine J_aload_n C iX10_find_3 rfl rfl ?_
    refine J_get (.int (nI m)) 0 C iX10_find_4 gf_X10_73 rfl rfl ?_
    refine J_icmpge 29 C iX10_find_7 rfl (fun h7 => ?_) (fun h7 => absurd (nI_le (Nat.le_refl m) (by omega)) h7)
    refine J_iconst (-1) C iX10_find_29 rfl ?_
    exact J_iret C E iX10_find_30 ⟨by rw [hnF_none hI], rfl⟩
  · refine J_iload_n C iX10_find_2 rfl rfl ?_
    refine J_aload_n C iX10_find_3 rfl rfl ?_
    refine J_get (.int (nI m)) 0 C iX10_find_4 gf_X10_73 rfl rfl ?_
    refine J_icmpge 29 C iX10_find_7 rfl (fun h7 => absurd h7 (nI_ge hk (by omega))) (fun h7 => ?_)
    refine J_aload_n C iX10_find_10 rfl rfl ?_
    refine J_get (.ref (pn 1)) 0 C iX10_find_11 gf_X10_335 rfl rfl ?_
    refine J_iload_n C iX10_find_14 rfl rfl ?_
    refine J_lald 1 C iX10_find_15 rfl (vp_in_nI (n := k) (by omega) (by decide)) ?_
    rw [nI_clamp (n := k) (by omega)]
    refine J_lload_n C iX10_find_16 rfl rfl ?_
    refine J_lcmp C iX10_find_17 ?_
    refine J_ifneL 23 C iX10_find_18 rfl (fun h18 => ?_) (fun h18 => ?_)
    · refine J_iinc ((nI k) + 1) [(3, .int ((nI k) + 1)), (0, .ref (pn 0)), (1, .long q)] C iX10_find_23 rfl rfl (by decide) rfl ?_
      rw [show (nI k) + 1 = nI (k + 1) from nI_add _ _]
      refine J_goto 2 C iX10_find_26 rfl ?_
      refine J_lvm [(3, .int (nI (k + 1))), (0, .ref (pn 0)), (1, .long q)] rfl ?_
      exact ih (lt_s hI h18)
    · refine J_iload_n C iX10_find_21 rfl rfl ?_
      exact J_iret C E iX10_find_22 ⟨by rw [hnF_some (k := k) hk h18 hI], rfl⟩

set_option maxRecDepth 100000 in
set_option maxHeartbeats 4000000 in
theorem c_X10_newHouse {Z : GZ} {l : Launch} {mo pl pn : Nat → Nat} {th sz ea tk dp lr dy ca mn : Int32} {kn : Bool} {hn va : Nat → Int64} {ha hh dz wh bg en od wi al tp kd fr me wo pc ht fs la kh kf kl sh dk sk : Nat → Int32} {m u : Nat} {q : Int64} (hm : m ≤ 12)  : Ct Z l yX10_newHouse cX10_newHouse 4 (some .int) (rmK 1) [.ref (mo 0), .ref (pn 0), .long q] (wMd Z mo pl th sz ea tk dp lr dy ca kn tp kd fr me va wo pc ht fs la kh kf kl sh dk sk ++ wPl Z pn (nI m) (nI u) mn hn ha hh dz wh bg en od wi al) (fun v w => (hnF hn q m ≠ -1 ∧ v = some (.int 2) ∧ w = (wMd Z mo pl th sz ea tk dp lr dy ca kn tp kd fr me va wo pc ht fs la kh kf kl sh dk sk ++ wPl Z pn (nI m) (nI u) mn hn ha hh dz wh bg en od wi al)) ∨ (hnF hn q m = -1 ∧ m = 12 ∧ v = some (.int 4) ∧ w = (wMd Z mo pl th sz ea tk dp lr dy ca kn tp kd fr me va wo pc ht fs la kh kf kl sh dk sk ++ wPl Z pn (nI m) (nI u) mn hn ha hh dz wh bg en od wi al)) ∨ (hnF hn q m = -1 ∧ m < 12 ∧ v = some (.int 0) ∧ w = (wMd Z mo pl th sz ea tk dp lr dy ca kn tp kd fr me va wo pc ht fs la kh kf kl sh dk sk ++ wPl Z pn (nI (m + 1)) (nI u) mn (vp_updL hn m q) ha hh dz wh bg en od wi al))) := by
  refine Ct.ofJ (own := RX10) (nm := "newHouse") (lv0 := [(0, .ref (mo 0)), (1, .ref (pn 0)), (2, .long q)]) (by decide) rfl rfl (Nat.le_of_ble_eq_true rfl) rfl (fun X hXl C E => ?_)
  subst hXl
  refine J_aload_n C iX10_newHouse_0 rfl rfl ?_
  refine J_lload_n C iX10_newHouse_1 rfl rfl ?_
  refine J_cSb (As := [.ref (pn 0), .long q]) (st := []) (rc2 := (rmK 1).cells) (rs2 := (rmK 1).slots) C iX10_newHouse_2 lm_X10_338 yc_X10_find ys_X10_find (c_X10_find (m := m) (q := q) (by omega)) (wMd Z mo pl th sz ea tk dp lr dy ca kn tp kd fr me va wo pc ht fs la kh kf kl sh dk sk) [] rfl rfl (rmK_le (by omega) (by decide)) (Nat.le_of_ble_eq_true rfl) rfl rfl ?_
  rintro _ _ ⟨rfl, rfl⟩
  refine J_st (.int (hnF hn q m) :: []) rfl ?_
  refine J_ws (wMd Z mo pl th sz ea tk dp lr dy ca kn tp kd fr me va wo pc ht fs la kh kf kl sh dk sk ++ wPl Z pn (nI m) (nI u) mn hn ha hh dz wh bg en od wi al) rfl ?_
  refine J_iconst (-1) C iX10_newHouse_5 rfl ?_
  refine J_icmpeq 11 C iX10_newHouse_6 rfl (fun h6 => ?_) (fun h6 => ?_)
  · refine J_aload_n C iX10_newHouse_11 rfl rfl ?_
    refine J_get (.int (nI m)) 17 C iX10_newHouse_12 gf_X10_73 rfl rfl ?_
    refine J_bipush 12 C iX10_newHouse_15 rfl ?_
    by_cases hs17 : m = 12
    · refine J_icmpne 22 C iX10_newHouse_17 rfl (fun h17 => absurd (show nI m = 12 from congrArg nI hs17) h17) (fun h17 => ?_)
      refine J_iconst 4 C iX10_newHouse_20 rfl ?_
      exact J_iret C E iX10_newHouse_21 (Or.inr (Or.inl ⟨h6, hs17, rfl, rfl⟩))
    · refine J_icmpne 22 C iX10_newHouse_17 rfl (fun h17 => ?_) (fun h17 => absurd h17 (fun e => hs17 ((nI_eq (a := m) (b := 12) (by omega) (by omega)).mp e)))
      refine J_aload_n C iX10_newHouse_22 rfl rfl ?_
      refine J_get (.ref (pn 1)) 17 C iX10_newHouse_23 gf_X10_335 rfl rfl ?_
      refine J_aload_n C iX10_newHouse_26 rfl rfl ?_
      refine J_get (.int (nI m)) 17 C iX10_newHouse_27 gf_X10_73 rfl rfl ?_
      refine J_lload_n C iX10_newHouse_30 rfl rfl ?_
      refine J_last (wMd Z mo pl th sz ea tk dp lr dy ca kn tp kd fr me va wo pc ht fs la kh kf kl sh dk sk ++ wPl Z pn (nI m) (nI u) mn (vp_updL hn (nI m).toNatClampNeg q) ha hh dz wh bg en od wi al) 18 C iX10_newHouse_31 rfl (vp_in_nI (n := m) (by omega) (by decide)) rfl ?_
      rw [nI_clamp (n := m) (by omega)]
      refine J_aload_n C iX10_newHouse_32 rfl rfl ?_
      refine J_dup C iX10_newHouse_33 rfl ?_
      refine J_get (.int (nI m)) 17 C iX10_newHouse_34 gf_X10_73 rfl rfl ?_
      refine J_iconst 1 C iX10_newHouse_37 rfl ?_
      refine J_iadd C iX10_newHouse_38 ?_
      rw [show (nI m) + 1 = nI (m + 1) from nI_add _ _]
      refine J_put (wMd Z mo pl th sz ea tk dp lr dy ca kn tp kd fr me va wo pc ht fs la kh kf kl sh dk sk ++ wPl Z pn (nI (m + 1)) (nI u) mn (vp_updL hn m q) ha hh dz wh bg en od wi al) 17 C iX10_newHouse_39 pf_X10_73 rfl rfl rfl (Nat.le_of_ble_eq_true rfl) rfl ?_
      refine J_iconst 0 C iX10_newHouse_42 rfl ?_
      exact J_iret C E iX10_newHouse_43 (Or.inr (Or.inr ⟨h6, by omega, rfl, rfl⟩))
  · refine J_iconst 2 C iX10_newHouse_9 rfl ?_
    exact J_iret C E iX10_newHouse_10 (Or.inl ⟨h6, rfl, rfl⟩)

set_option maxRecDepth 100000 in
set_option maxHeartbeats 4000000 in
theorem c_X10_itsPlace {Z : GZ} {l : Launch} {mo pl pn : Nat → Nat} {th sz ea tk dp lr dy ca mn : Int32} {kn : Bool} {hn va : Nat → Int64} {ha hh dz wh bg en od wi al tp kd fr me wo pc ht fs la kh kf kl sh dk sk : Nat → Int32} {m u : Nat} {q : Int64} (hm : m ≤ 12) (hm1 : 1 ≤ m)  : Ct Z l yX10_itsPlace cX10_itsPlace 6 (some .int) (rmK 0) [.ref (mo 0), .ref (pn 0), .long q] (wMd Z mo pl th sz ea tk dp lr dy ca kn tp kd fr me va wo pc ht fs la kh kf kl sh dk sk ++ wPl Z pn (nI m) (nI u) mn hn ha hh dz wh bg en od wi al) (fun v w => ((99 < q ∨ tkF ha q (m - 1) = true) ∧ v = some (.int 5) ∧ w = (wMd Z mo pl th sz ea tk dp lr dy ca kn tp kd fr me va wo pc ht fs la kh kf kl sh dk sk ++ wPl Z pn (nI m) (nI u) mn hn ha hh dz wh bg en od wi al)) ∨ (¬ 99 < q ∧ ¬ tkF ha q (m - 1) = true ∧ v = some (.int 0) ∧ w = (wMd Z mo pl th sz ea tk dp lr dy ca kn tp kd fr me va wo pc ht fs la kh kf kl sh dk sk ++ wPl Z pn (nI m) (nI u) mn hn (upd ha (m - 1) q.toInt32) hh dz wh bg en od wi al))) := by
  refine Ct.ofJ (own := RX10) (nm := "itsPlace") (lv0 := [(0, .ref (mo 0)), (1, .ref (pn 0)), (2, .long q)]) (by decide) rfl rfl (Nat.le_of_ble_eq_true rfl) rfl (fun X hXl C E => ?_)
  subst hXl
  refine J_lload_n C iX10_itsPlace_0 rfl rfl ?_
  refine J_ldc2 99 C iX10_itsPlace_1 (tsg_in (i := 1536) (by decide +kernel) rfl) ?_
  refine J_lcmp C iX10_itsPlace_4 ?_
  refine J_ifleL 10 C iX10_itsPlace_5 rfl (fun h5 => ?_) (fun h5 => ?_)
  · refine J_aload_n C iX10_itsPlace_10 rfl rfl ?_
    refine J_get (.int (nI m)) 17 C iX10_itsPlace_11 gf_X10_73 rfl rfl ?_
    refine J_iconst 1 C iX10_itsPlace_14 rfl ?_
    refine J_isub C iX10_itsPlace_15 ?_
    rw [show (nI m) - 1 = nI (m - 1) from nI_prd hm1]
    refine J_istore [(4, .int (nI (m - 1))), (0, .ref (mo 0)), (1, .ref (pn 0)), (2, .long q)] C iX10_itsPlace_16 (by decide) rfl ?_
    refine J_iconst 0 C iX10_itsPlace_18 rfl ?_
    refine J_istore [(5, .int 0), (4, .int (nI (m - 1))), (0, .ref (mo 0)), (1, .ref (pn 0)), (2, .long q)] C iX10_itsPlace_19 (by decide) rfl ?_
    refine J_lvm [(5, .int 0), (4, .int (nI (m - 1))), (0, .ref (mo 0)), (1, .ref (pn 0)), (2, .long q)] rfl ?_
    refine J_forP (fun k => [(5, .int (nI k)), (4, .int (nI (m - 1))), (0, .ref (mo 0)), (1, .ref (pn 0)), (2, .long q)]) (fun k => (wMd Z mo pl th sz ea tk dp lr dy ca kn tp kd fr me va wo pc ht fs la kh kf kl sh dk sk ++ wPl Z pn (nI m) (nI u) mn hn ha hh dz wh bg en od wi al)) (fun k => ∀ j, j < k → ¬ (ha j).toInt64 = q) (m - 1) 0 (by omega) (fun _ h => absurd h (Nat.not_lt_zero _)) (fun hI => ?_) (fun k hk0 hk hI ih => ?_)
    · refine J_iload C iX10_itsPlace_21 rfl ?_
      refine J_iload C iX10_itsPlace_23 rfl ?_
      refine J_icmpge 49 C iX10_itsPlace_25 rfl (fun h25 => ?_) (fun h25 => absurd (nI_le (Nat.le_refl (m - 1)) (by omega)) h25)
      refine J_aload_n C iX10_itsPlace_49 rfl rfl ?_
      refine J_get (.ref (pn 2)) 17 C iX10_itsPlace_50 gf_X10_344 rfl rfl ?_
      refine J_iload C iX10_itsPlace_53 rfl ?_
      refine J_lload_n C iX10_itsPlace_55 rfl rfl ?_
      refine J_l2i C iX10_itsPlace_56 ?_
      refine J_iast (wMd Z mo pl th sz ea tk dp lr dy ca kn tp kd fr me va wo pc ht fs la kh kf kl sh dk sk ++ wPl Z pn (nI m) (nI u) mn hn (upd ha (nI (m - 1)).toNatClampNeg q.toInt32) hh dz wh bg en od wi al) 19 C iX10_itsPlace_57 rfl (vp_in_nI (n := (m - 1)) (by omega) (by decide)) rfl ?_
      rw [nI_clamp (n := (m - 1)) (by omega)]
      refine J_iconst 0 C iX10_itsPlace_58 rfl ?_
      exact J_iret C E iX10_itsPlace_59 (Or.inr ⟨Int64.not_lt.mpr h5, by rw [tkF_none hI]; exact Bool.false_ne_true, rfl, rfl⟩)
    · refine J_iload C iX10_itsPlace_21 rfl ?_
      refine J_iload C iX10_itsPlace_23 rfl ?_
      refine J_icmpge 49 C iX10_itsPlace_25 rfl (fun h25 => absurd h25 (nI_ge hk (by omega))) (fun h25 => ?_)
      refine J_aload_n C iX10_itsPlace_28 rfl rfl ?_
      refine J_get (.ref (pn 2)) 17 C iX10_itsPlace_29 gf_X10_344 rfl rfl ?_
      refine J_iload C iX10_itsPlace_32 rfl ?_
      refine J_iald 19 C iX10_itsPlace_34 rfl (vp_in_nI (n := k) (by omega) (by decide)) ?_
      rw [nI_clamp (n := k) (by omega)]
      refine J_i2l C iX10_itsPlace_35 ?_
      refine J_lload_n C iX10_itsPlace_36 rfl rfl ?_
      refine J_lcmp C iX10_itsPlace_37 ?_
      refine J_ifneL 43 C iX10_itsPlace_38 rfl (fun h38 => ?_) (fun h38 => ?_)
      · refine J_iinc ((nI k) + 1) [(5, .int ((nI k) + 1)), (4, .int (nI (m - 1))), (0, .ref (mo 0)), (1, .ref (pn 0)), (2, .long q)] C iX10_itsPlace_43 rfl rfl (by decide) rfl ?_
        rw [show (nI k) + 1 = nI (k + 1) from nI_add _ _]
        refine J_goto 21 C iX10_itsPlace_46 rfl ?_
        refine J_lvm [(5, .int (nI (k + 1))), (4, .int (nI (m - 1))), (0, .ref (mo 0)), (1, .ref (pn 0)), (2, .long q)] rfl ?_
        exact ih (lt_s hI h38)
      · refine J_iconst 5 C iX10_itsPlace_41 rfl ?_
        exact J_iret C E iX10_itsPlace_42 (Or.inl ⟨Or.inr (tkF_some hk h38 hI), rfl, rfl⟩)
  · refine J_iconst 5 C iX10_itsPlace_8 rfl ?_
    exact J_iret C E iX10_itsPlace_9 (Or.inl ⟨Or.inl (Int64.not_le.mp h5), rfl, rfl⟩)

set_option maxRecDepth 100000 in
set_option maxHeartbeats 4000000 in
theorem c_X10_itsHeight {Z : GZ} {l : Launch} {mo pl pn : Nat → Nat} {th sz ea tk dp lr dy ca mn : Int32} {kn : Bool} {hn va : Nat → Int64} {ha hh dz wh bg en od wi al tp kd fr me wo pc ht fs la kh kf kl sh dk sk : Nat → Int32} {m u : Nat} {q : Int64} (hm : m ≤ 12) (hm1 : 1 ≤ m)  : Ct Z l yX10_itsHeight cX10_itsHeight 4 (some .int) (rmK 0) [.ref (mo 0), .ref (pn 0), .long q] (wMd Z mo pl th sz ea tk dp lr dy ca kn tp kd fr me va wo pc ht fs la kh kf kl sh dk sk ++ wPl Z pn (nI m) (nI u) mn hn ha hh dz wh bg en od wi al) (fun v w => (¬ q ≤ 30 ∧ v = some (.int 5) ∧ w = (wMd Z mo pl th sz ea tk dp lr dy ca kn tp kd fr me va wo pc ht fs la kh kf kl sh dk sk ++ wPl Z pn (nI m) (nI u) mn hn ha hh dz wh bg en od wi al)) ∨ (q ≤ 30 ∧ v = some (.int 0) ∧ w = (wMd Z mo pl th sz ea tk dp lr dy ca kn tp kd fr me va wo pc ht fs la kh kf kl sh dk sk ++ wPl Z pn (nI m) (nI u) mn hn ha (upd hh (m - 1) q.toInt32) dz wh bg en od wi al))) := by
  refine Ct.ofJ (own := RX10) (nm := "itsHeight") (lv0 := [(0, .ref (mo 0)), (1, .ref (pn 0)), (2, .long q)]) (by decide) rfl rfl (Nat.le_of_ble_eq_true rfl) rfl (fun X hXl C E => ?_)
  subst hXl
  refine J_lload_n C iX10_itsHeight_0 rfl rfl ?_
  refine J_ldc2 30 C iX10_itsHeight_1 (tsg_in (i := 1541) (by decide +kernel) rfl) ?_
  refine J_lcmp C iX10_itsHeight_4 ?_
  refine J_ifleL 10 C iX10_itsHeight_5 rfl (fun h5 => ?_) (fun h5 => ?_)
  · refine J_aload_n C iX10_itsHeight_10 rfl rfl ?_
    refine J_get (.ref (pn 3)) 17 C iX10_itsHeight_11 gf_X10_347 rfl rfl ?_
    refine J_aload_n C iX10_itsHeight_14 rfl rfl ?_
    refine J_get (.int (nI m)) 17 C iX10_itsHeight_15 gf_X10_73 rfl rfl ?_
    refine J_iconst 1 C iX10_itsHeight_18 rfl ?_
    refine J_isub C iX10_itsHeight_19 ?_
    rw [show (nI m) - 1 = nI (m - 1) from nI_prd hm1]
    refine J_lload_n C iX10_itsHeight_20 rfl rfl ?_
    refine J_l2i C iX10_itsHeight_21 ?_
    refine J_iast (wMd Z mo pl th sz ea tk dp lr dy ca kn tp kd fr me va wo pc ht fs la kh kf kl sh dk sk ++ wPl Z pn (nI m) (nI u) mn hn ha (upd hh (nI (m - 1)).toNatClampNeg q.toInt32) dz wh bg en od wi al) 20 C iX10_itsHeight_22 rfl (vp_in_nI (n := (m - 1)) (by omega) (by decide)) rfl ?_
    rw [nI_clamp (n := (m - 1)) (by omega)]
    refine J_iconst 0 C iX10_itsHeight_23 rfl ?_
    exact J_iret C E iX10_itsHeight_24 (Or.inr ⟨h5, rfl, rfl⟩)
  · refine J_iconst 5 C iX10_itsHeight_8 rfl ?_
    exact J_iret C E iX10_itsHeight_9 (Or.inl ⟨h5, rfl, rfl⟩)

set_option maxRecDepth 100000 in
set_option maxHeartbeats 4000000 in
theorem c_X10_newLaw {Z : GZ} {l : Launch} {mo pl pn : Nat → Nat} {th sz ea tk dp lr dy ca mn : Int32} {kn : Bool} {hn va : Nat → Int64} {ha hh dz wh bg en od wi al tp kd fr me wo pc ht fs la kh kf kl sh dk sk : Nat → Int32} {m u : Nat} (hu : u ≤ 16)  : Ct Z l yX10_newLaw cX10_newLaw 2 (some .int) (rmK 0) [.ref (mo 0), .ref (pn 0)] (wMd Z mo pl th sz ea tk dp lr dy ca kn tp kd fr me va wo pc ht fs la kh kf kl sh dk sk ++ wPl Z pn (nI m) (nI u) mn hn ha hh dz wh bg en od wi al) (fun v w => (¬ u < 16 ∧ v = some (.int 4) ∧ w = (wMd Z mo pl th sz ea tk dp lr dy ca kn tp kd fr me va wo pc ht fs la kh kf kl sh dk sk ++ wPl Z pn (nI m) (nI u) mn hn ha hh dz wh bg en od wi al)) ∨ (u < 16 ∧ v = some (.int 0) ∧ w = (wMd Z mo pl th sz ea tk dp lr dy ca kn tp kd fr me va wo pc ht fs la kh kf kl sh dk sk ++ wPl Z pn (nI m) (nI (u + 1)) mn hn ha hh dz wh bg en od wi al))) := by
  refine Ct.ofJ (own := RX10) (nm := "newLaw") (lv0 := [(0, .ref (mo 0)), (1, .ref (pn 0))]) (by decide) rfl rfl (Nat.le_of_ble_eq_true rfl) rfl (fun X hXl C E => ?_)
  subst hXl
  refine J_aload_n C iX10_newLaw_0 rfl rfl ?_
  refine J_get (.int (nI u)) 17 C iX10_newLaw_1 gf_X10_179 rfl rfl ?_
  refine J_bipush 16 C iX10_newLaw_4 rfl ?_
  by_cases hs6 : u = 16
  · refine J_icmpne 11 C iX10_newLaw_6 rfl (fun h6 => absurd (show nI u = 16 from congrArg nI hs6) h6) (fun h6 => ?_)
    refine J_iconst 4 C iX10_newLaw_9 rfl ?_
    exact J_iret C E iX10_newLaw_10 (Or.inl ⟨by omega, rfl, rfl⟩)
  · refine J_icmpne 11 C iX10_newLaw_6 rfl (fun h6 => ?_) (fun h6 => absurd h6 (fun e => hs6 ((nI_eq (a := u) (b := 16) (by omega) (by omega)).mp e)))
    refine J_aload_n C iX10_newLaw_11 rfl rfl ?_
    refine J_dup C iX10_newLaw_12 rfl ?_
    refine J_get (.int (nI u)) 17 C iX10_newLaw_13 gf_X10_179 rfl rfl ?_
    refine J_iconst 1 C iX10_newLaw_16 rfl ?_
    refine J_iadd C iX10_newLaw_17 ?_
    rw [show (nI u) + 1 = nI (u + 1) from nI_add _ _]
    refine J_put (wMd Z mo pl th sz ea tk dp lr dy ca kn tp kd fr me va wo pc ht fs la kh kf kl sh dk sk ++ wPl Z pn (nI m) (nI (u + 1)) mn hn ha hh dz wh bg en od wi al) 17 C iX10_newLaw_18 pf_X10_179 rfl rfl rfl (Nat.le_of_ble_eq_true rfl) rfl ?_
    refine J_iconst 0 C iX10_newLaw_21 rfl ?_
    exact J_iret C E iX10_newLaw_22 (Or.inr ⟨by omega, rfl, rfl⟩)

set_option maxRecDepth 100000 in
set_option maxHeartbeats 4000000 in
theorem c_X10_aHouse {Z : GZ} {l : Launch} {mo pl pn : Nat → Nat} {th sz ea tk dp lr dy ca mn : Int32} {kn : Bool} {hn va : Nat → Int64} {ha hh dz wh bg en od wi al tp kd fr me wo pc ht fs la kh kf kl sh dk sk : Nat → Int32} {m u : Nat} {k : Nat} (hm : m ≤ 12) (hk : k ≤ 400)  : Ct Z l yX10_aHouse cX10_aHouse 3 (some .int) (rmK 1) [.ref (mo 0), .ref (pn 0), .int (nI k)] (wMd Z mo pl th sz ea tk dp lr dy ca kn tp kd fr me va wo pc ht fs la kh kf kl sh dk sk ++ wPl Z pn (nI m) (nI u) mn hn ha hh dz wh bg en od wi al) (fun v w => (hnF hn (va k) m = -1 ∧ v = some (.int 3) ∧ w = (wMd Z mo pl th sz ea tk dp lr dy ca kn tp kd fr me va (upd wo k (hnF hn (va k) m)) pc ht fs la kh kf kl sh dk sk ++ wPl Z pn (nI m) (nI u) mn hn ha hh dz wh bg en od wi al)) ∨ (hnF hn (va k) m ≠ -1 ∧ v = some (.int 0) ∧ w = (wMd Z mo pl th sz ea tk dp lr dy ca kn tp kd fr me va (upd wo k (hnF hn (va k) m)) pc ht fs la kh kf kl sh dk sk ++ wPl Z pn (nI m) (nI u) mn hn ha hh dz wh bg en od wi al))) := by
  refine Ct.ofJ (own := RX10) (nm := "aHouse") (lv0 := [(0, .ref (mo 0)), (1, .ref (pn 0)), (2, .int (nI k))]) (by decide) rfl rfl (Nat.le_of_ble_eq_true rfl) rfl (fun X hXl C E => ?_)
  subst hXl
  refine J_aload_n C iX10_aHouse_0 rfl rfl ?_
  refine J_get (.ref (mo 6)) 0 C iX10_aHouse_1 gf_X10_37 rfl rfl ?_
  refine J_iload_n C iX10_aHouse_4 rfl rfl ?_
  refine J_aload_n C iX10_aHouse_5 rfl rfl ?_
  refine J_aload_n C iX10_aHouse_6 rfl rfl ?_
  refine J_get (.ref (mo 5)) 0 C iX10_aHouse_7 gf_X10_33 rfl rfl ?_
  refine J_iload_n C iX10_aHouse_10 rfl rfl ?_
  refine J_lald 5 C iX10_aHouse_11 rfl (vp_in_nI (n := k) (by omega) (by decide)) ?_
  rw [nI_clamp (n := k) (by omega)]
  refine J_cSb (As := [.ref (pn 0), .long (va k)]) (st := .int (nI k) :: .ref (mo 6) :: []) (rc2 := (rmK 1).cells) (rs2 := (rmK 1).slots) C iX10_aHouse_12 lm_X10_338 yc_X10_find ys_X10_find (c_X10_find (m := m) (q := va k) (by omega)) (wMd Z mo pl th sz ea tk dp lr dy ca kn tp kd fr me va wo pc ht fs la kh kf kl sh dk sk) [] rfl rfl (rmK_le (by omega) (by decide)) (Nat.le_of_ble_eq_true rfl) rfl rfl ?_
  rintro _ _ ⟨rfl, rfl⟩
  refine J_st (.int (hnF hn (va k) m) :: .int (nI k) :: .ref (mo 6) :: []) rfl ?_
  refine J_ws (wMd Z mo pl th sz ea tk dp lr dy ca kn tp kd fr me va wo pc ht fs la kh kf kl sh dk sk ++ wPl Z pn (nI m) (nI u) mn hn ha hh dz wh bg en od wi al) rfl ?_
  refine J_iast (wMd Z mo pl th sz ea tk dp lr dy ca kn tp kd fr me va (upd wo (nI k).toNatClampNeg (hnF hn (va k) m)) pc ht fs la kh kf kl sh dk sk ++ wPl Z pn (nI m) (nI u) mn hn ha hh dz wh bg en od wi al) 6 C iX10_aHouse_15 rfl (vp_in_nI (n := k) (by omega) (by decide)) rfl ?_
  rw [nI_clamp (n := k) (by omega)]
  refine J_aload_n C iX10_aHouse_16 rfl rfl ?_
  refine J_get (.ref (mo 6)) 0 C iX10_aHouse_17 gf_X10_37 rfl rfl ?_
  refine J_iload_n C iX10_aHouse_20 rfl rfl ?_
  refine J_iald 6 C iX10_aHouse_21 rfl (vp_in_nI (n := k) (by omega) (by decide)) ?_
  rw [nI_clamp (n := k) (by omega)]
  rw [upd_s]
  refine J_iconst (-1) C iX10_aHouse_22 rfl ?_
  refine J_icmpne 30 C iX10_aHouse_23 rfl (fun h23 => ?_) (fun h23 => ?_)
  · refine J_iconst 0 C iX10_aHouse_30 rfl ?_
    exact J_iret C E iX10_aHouse_31 (Or.inr ⟨h23, rfl, rfl⟩)
  · refine J_iconst 3 C iX10_aHouse_26 rfl ?_
    refine J_goto 31 C iX10_aHouse_27 rfl ?_
    exact J_iret C E iX10_aHouse_31 (Or.inl ⟨h23, rfl, rfl⟩)

set_option maxRecDepth 100000 in
set_option maxHeartbeats 4000000 in
theorem c_X10_errorOf {Z : GZ} {l : Launch} {mo pl pn : Nat → Nat} {th sz ea tk dp lr dy ca mn : Int32} {kn : Bool} {hn va : Nat → Int64} {ha hh dz wh bg en od wi al tp kd fr me wo pc ht fs la kh kf kl sh dk sk : Nat → Int32} {m u : Nat} {k : Nat} {sq : Nat → Int32} {vq : Nat → Int64} {a : Int32} (hm : m ≤ 12) (hu : u ≤ 16) (hk : k ≤ 400) (hm1 : me k = 2 ∨ me k = 3 → 1 ≤ m) (hu1 : me k = 5 → 1 ≤ u) (h06 : ¬ me k = 0 → ¬ me k = 1 → ¬ me k = 2 → ¬ me k = 3 → ¬ me k = 4 → ¬ me k = 5 → me k = 6) (hvk : me k ≠ 0 → me k ≠ 4 → va k = vq k)  : Ct Z l yX10_errorOf cX10_errorOf 4 (some .int) (rmK 3) [.ref (mo 0), .ref (pn 0), .int (nI k)] (wMd Z mo pl th sz ea tk dp lr dy ca kn tp kd fr me va wo pc ht fs la kh kf kl sh dk sk ++ wPl Z pn (nI m) (nI u) mn hn ha hh dz wh bg en od wi al) (fun v w => (v = some (.int 0) ∧ ∃ m2 hn2 ha2 hh2 u2 wh2 wo2, w = (wMd Z mo pl th sz ea tk dp lr dy ca kn tp kd fr me va wo2 pc ht fs la kh kf kl sh dk sk ++ wPl Z pn (nI m2) (nI u2) mn hn2 ha2 hh2 dz wh2 bg en od wi al) ∧ p2S sq vq me k (0, a, m, hn, ha, hh, u, wh, wo) = (0, a, m2, hn2, ha2, hh2, u2, wh2, wo2)) ∨ (∃ er m2 hn2 ha2 hh2 u2 wh2 wo2, v = some (.int er) ∧ er ≠ 0 ∧ w = (wMd Z mo pl th sz ea tk dp lr dy ca kn tp kd fr me va wo2 pc ht fs la kh kf kl sh dk sk ++ wPl Z pn (nI m2) (nI u2) mn hn2 ha2 hh2 dz wh2 bg en od wi al) ∧ ∃ r, p2S sq vq me k (0, a, m, hn, ha, hh, u, wh, wo) = (er, sq k, r))) := by
  refine Ct.ofJ (own := RX10) (nm := "errorOf") (lv0 := [(0, .ref (mo 0)), (1, .ref (pn 0)), (2, .int (nI k))]) (by decide) rfl rfl (Nat.le_of_ble_eq_true rfl) rfl (fun X hXl C E => ?_)
  subst hXl
  refine J_aload_n C iX10_errorOf_0 rfl rfl ?_
  refine J_get (.ref (mo 4)) 0 C iX10_errorOf_1 gf_X10_30 rfl rfl ?_
  refine J_iload_n C iX10_errorOf_4 rfl rfl ?_
  refine J_iald 4 C iX10_errorOf_5 rfl (vp_in_nI (n := k) (by omega) (by decide)) ?_
  rw [nI_clamp (n := k) (by omega)]
  by_cases hv6_0 : (me k) = 0
  · refine J_tabIn 44 C iX10_errorOf_6 (by rw [hv6_0]; decide) (by rw [hv6_0]; decide) (by rw [hv6_0]; rfl) rfl ?_
    refine J_iconst 0 C iX10_errorOf_44 rfl ?_
    exact J_iret C E iX10_errorOf_45 (Or.inl ⟨rfl, m, hn, ha, hh, u, wh, wo, rfl, by rw [p2S, if_pos rfl, hv6_0, if_neg (by decide), if_neg (by decide), if_neg (by decide), if_neg (by decide), if_neg (by decide), if_neg (by decide)]⟩)
  by_cases hv6_1 : (me k) = 1
  · refine J_tabIn 46 C iX10_errorOf_6 (by rw [hv6_1]; decide) (by rw [hv6_1]; decide) (by rw [hv6_1]; rfl) rfl ?_
    refine J_aload_n C iX10_errorOf_46 rfl rfl ?_
    refine J_aload_n C iX10_errorOf_47 rfl rfl ?_
    refine J_aload_n C iX10_errorOf_48 rfl rfl ?_
    refine J_get (.ref (mo 5)) 0 C iX10_errorOf_49 gf_X10_33 rfl rfl ?_
    refine J_iload_n C iX10_errorOf_52 rfl rfl ?_
    refine J_lald 5 C iX10_errorOf_53 rfl (vp_in_nI (n := k) (by omega) (by decide)) ?_
    rw [nI_clamp (n := k) (by omega)]
    refine J_cV (As := [.ref (pn 0), .long (va k)]) (st := []) (rc2 := (rmK 3).cells) (rs2 := (rmK 3).slots) C iX10_errorOf_54 lm_X10_350 yc_X10_newHouse yv_X10_newHouse (c_X10_newHouse hm) (q0 := 0) rfl rfl rfl rfl (rmK_le (by omega) (by decide)) (Nat.le_of_ble_eq_true rfl) rfl rfl ?_
    rintro _ _ (⟨f1, rfl, rfl⟩ | ⟨f1, f2, rfl, rfl⟩ | ⟨f1, f2, rfl, rfl⟩)
    · refine J_st (.int 2 :: []) rfl ?_
      exact J_iret C E iX10_errorOf_57 (Or.inr ⟨2, m, hn, ha, hh, u, wh, wo, rfl, by decide, rfl, ⟨_, by rw [p2S, if_pos rfl, hv6_1, if_pos rfl, ← hvk (by rw [hv6_1]; decide) (by rw [hv6_1]; decide), if_neg f1]⟩⟩)
    · refine J_st (.int 4 :: []) rfl ?_
      exact J_iret C E iX10_errorOf_57 (Or.inr ⟨4, m, hn, ha, hh, u, wh, wo, rfl, by decide, rfl, ⟨_, by rw [p2S, if_pos rfl, hv6_1, if_pos rfl, ← hvk (by rw [hv6_1]; decide) (by rw [hv6_1]; decide), if_pos f1, if_neg (by omega)]⟩⟩)
    · refine J_st (.int 0 :: []) rfl ?_
      exact J_iret C E iX10_errorOf_57 (Or.inl ⟨rfl, (m + 1), vp_updL hn m (va k), ha, hh, u, wh, wo, rfl, by rw [p2S, if_pos rfl, hv6_1, if_pos rfl, ← hvk (by rw [hv6_1]; decide) (by rw [hv6_1]; decide), if_pos f1, if_pos f2]⟩)
  by_cases hv6_2 : (me k) = 2
  · refine J_tabIn 58 C iX10_errorOf_6 (by rw [hv6_2]; decide) (by rw [hv6_2]; decide) (by rw [hv6_2]; rfl) rfl ?_
    refine J_aload_n C iX10_errorOf_58 rfl rfl ?_
    refine J_aload_n C iX10_errorOf_59 rfl rfl ?_
    refine J_aload_n C iX10_errorOf_60 rfl rfl ?_
    refine J_get (.ref (mo 5)) 0 C iX10_errorOf_61 gf_X10_33 rfl rfl ?_
    refine J_iload_n C iX10_errorOf_64 rfl rfl ?_
    refine J_lald 5 C iX10_errorOf_65 rfl (vp_in_nI (n := k) (by omega) (by decide)) ?_
    rw [nI_clamp (n := k) (by omega)]
    refine J_cV (As := [.ref (pn 0), .long (va k)]) (st := []) (rc2 := (rmK 3).cells) (rs2 := (rmK 3).slots) C iX10_errorOf_66 lm_X10_353 yc_X10_itsPlace yv_X10_itsPlace (c_X10_itsPlace hm (hm1 (Or.inl hv6_2))) (q0 := 0) rfl rfl rfl rfl (rmK_le (by omega) (by decide)) (Nat.le_of_ble_eq_true rfl) rfl rfl ?_
    rintro _ _ (⟨f1, rfl, rfl⟩ | ⟨f1, f2, rfl, rfl⟩)
    · refine J_st (.int 5 :: []) rfl ?_
      exact J_iret C E iX10_errorOf_69 (Or.inr ⟨5, m, hn, ha, hh, u, wh, wo, rfl, by decide, rfl, ⟨_, by rcases f1 with f1 | f1; (rw [p2S, if_pos rfl, hv6_2, if_neg (by decide), if_pos rfl, ← hvk (by rw [hv6_2]; decide) (by rw [hv6_2]; decide), if_pos f1]); (by_cases f0 : 99 < va k; (rw [p2S, if_pos rfl, hv6_2, if_neg (by decide), if_pos rfl, ← hvk (by rw [hv6_2]; decide) (by rw [hv6_2]; decide), if_pos f0]); (rw [p2S, if_pos rfl, hv6_2, if_neg (by decide), if_pos rfl, ← hvk (by rw [hv6_2]; decide) (by rw [hv6_2]; decide), if_neg f0, if_pos f1]))⟩⟩)
    · refine J_st (.int 0 :: []) rfl ?_
      exact J_iret C E iX10_errorOf_69 (Or.inl ⟨rfl, m, hn, upd ha (m - 1) (va k).toInt32, hh, u, wh, wo, rfl, by rw [p2S, if_pos rfl, hv6_2, if_neg (by decide), if_pos rfl, ← hvk (by rw [hv6_2]; decide) (by rw [hv6_2]; decide), if_neg f1, if_neg f2]⟩)
  by_cases hv6_3 : (me k) = 3
  · refine J_tabIn 70 C iX10_errorOf_6 (by rw [hv6_3]; decide) (by rw [hv6_3]; decide) (by rw [hv6_3]; rfl) rfl ?_
    refine J_aload_n C iX10_errorOf_70 rfl rfl ?_
    refine J_aload_n C iX10_errorOf_71 rfl rfl ?_
    refine J_aload_n C iX10_errorOf_72 rfl rfl ?_
    refine J_get (.ref (mo 5)) 0 C iX10_errorOf_73 gf_X10_33 rfl rfl ?_
    refine J_iload_n C iX10_errorOf_76 rfl rfl ?_
    refine J_lald 5 C iX10_errorOf_77 rfl (vp_in_nI (n := k) (by omega) (by decide)) ?_
    rw [nI_clamp (n := k) (by omega)]
    refine J_cV (As := [.ref (pn 0), .long (va k)]) (st := []) (rc2 := (rmK 3).cells) (rs2 := (rmK 3).slots) C iX10_errorOf_78 lm_X10_356 yc_X10_itsHeight yv_X10_itsHeight (c_X10_itsHeight hm (hm1 (Or.inr hv6_3))) (q0 := 0) rfl rfl rfl rfl (rmK_le (by omega) (by decide)) (Nat.le_of_ble_eq_true rfl) rfl rfl ?_
    rintro _ _ (⟨f1, rfl, rfl⟩ | ⟨f1, rfl, rfl⟩)
    · refine J_st (.int 5 :: []) rfl ?_
      exact J_iret C E iX10_errorOf_81 (Or.inr ⟨5, m, hn, ha, hh, u, wh, wo, rfl, by decide, rfl, ⟨_, by rw [p2S, if_pos rfl, hv6_3, if_neg (by decide), if_neg (by decide), if_pos rfl, ← hvk (by rw [hv6_3]; decide) (by rw [hv6_3]; decide), if_neg f1]⟩⟩)
    · refine J_st (.int 0 :: []) rfl ?_
      exact J_iret C E iX10_errorOf_81 (Or.inl ⟨rfl, m, hn, ha, upd hh (m - 1) (va k).toInt32, u, wh, wo, rfl, by rw [p2S, if_pos rfl, hv6_3, if_neg (by decide), if_neg (by decide), if_pos rfl, ← hvk (by rw [hv6_3]; decide) (by rw [hv6_3]; decide), if_pos f1]⟩)
  by_cases hv6_4 : (me k) = 4
  · refine J_tabIn 82 C iX10_errorOf_6 (by rw [hv6_4]; decide) (by rw [hv6_4]; decide) (by rw [hv6_4]; rfl) rfl ?_
    refine J_aload_n C iX10_errorOf_82 rfl rfl ?_
    refine J_aload_n C iX10_errorOf_83 rfl rfl ?_
    refine J_cV (As := [.ref (pn 0)]) (st := []) (rc2 := (rmK 3).cells) (rs2 := (rmK 3).slots) C iX10_errorOf_84 lm_X10_359 yc_X10_newLaw yv_X10_newLaw (c_X10_newLaw hu) (q0 := 0) rfl rfl rfl rfl (rmK_le (by omega) (by decide)) (Nat.le_of_ble_eq_true rfl) rfl rfl ?_
    rintro _ _ (⟨f1, rfl, rfl⟩ | ⟨f1, rfl, rfl⟩)
    · refine J_st (.int 4 :: []) rfl ?_
      exact J_iret C E iX10_errorOf_87 (Or.inr ⟨4, m, hn, ha, hh, u, wh, wo, rfl, by decide, rfl, ⟨_, by rw [p2S, if_pos rfl, hv6_4, if_neg (by decide), if_neg (by decide), if_neg (by decide), if_pos rfl, if_neg f1]⟩⟩)
    · refine J_st (.int 0 :: []) rfl ?_
      exact J_iret C E iX10_errorOf_87 (Or.inl ⟨rfl, m, hn, ha, hh, (u + 1), wh, wo, rfl, by rw [p2S, if_pos rfl, hv6_4, if_neg (by decide), if_neg (by decide), if_neg (by decide), if_pos rfl, if_pos f1]⟩)
  by_cases hv6_5 : (me k) = 5
  · refine J_tabIn 88 C iX10_errorOf_6 (by rw [hv6_5]; decide) (by rw [hv6_5]; decide) (by rw [hv6_5]; rfl) rfl ?_
    have hu1' := hu1 hv6_5
    refine J_aload_n C iX10_errorOf_88 rfl rfl ?_
    refine J_aload_n C iX10_errorOf_89 rfl rfl ?_
    refine J_iload_n C iX10_errorOf_90 rfl rfl ?_
    refine J_cV (As := [.ref (pn 0), .int (nI k)]) (st := []) (rc2 := (rmK 3).cells) (rs2 := (rmK 3).slots) C iX10_errorOf_91 lm_X10_363 yc_X10_aHouse yv_X10_aHouse (c_X10_aHouse hm hk) (q0 := 0) rfl rfl rfl rfl (rmK_le (by omega) (by decide)) (Nat.le_of_ble_eq_true rfl) rfl rfl ?_
    rintro _ _ (⟨f1, rfl, rfl⟩ | ⟨f1, rfl, rfl⟩)
    · refine J_st (.int 3 :: []) rfl ?_
      refine J_istore_n [(3, .int 3), (0, .ref (mo 0)), (1, .ref (pn 0)), (2, .int (nI k))] C iX10_errorOf_94 rfl (by decide) rfl ?_
      refine J_aload_n C iX10_errorOf_95 rfl rfl ?_
      refine J_get (.ref (pn 5)) 17 C iX10_errorOf_96 gf_X10_139 rfl rfl ?_
      refine J_aload_n C iX10_errorOf_99 rfl rfl ?_
      refine J_get (.int (nI u)) 17 C iX10_errorOf_100 gf_X10_179 rfl rfl ?_
      refine J_iconst 1 C iX10_errorOf_103 rfl ?_
      refine J_isub C iX10_errorOf_104 ?_
      rw [show (nI u) - 1 = nI (u - 1) from nI_prd (hu1 hv6_5)]
      refine J_aload_n C iX10_errorOf_105 rfl rfl ?_
      refine J_get (.ref (mo 6)) 0 C iX10_errorOf_106 gf_X10_37 rfl rfl ?_
      refine J_iload_n C iX10_errorOf_109 rfl rfl ?_
      refine J_iald 6 C iX10_errorOf_110 rfl (vp_in_nI (n := k) (by omega) (by decide)) ?_
      rw [nI_clamp (n := k) (by omega)]
      rw [upd_s]
      refine J_iast (wMd Z mo pl th sz ea tk dp lr dy ca kn tp kd fr me va (upd wo k (hnF hn (va k) m)) pc ht fs la kh kf kl sh dk sk ++ wPl Z pn (nI m) (nI u) mn hn ha hh dz (upd wh (nI (u - 1)).toNatClampNeg (hnF hn (va k) m)) bg en od wi al) 22 C iX10_errorOf_111 rfl (vp_in_nI (n := (u - 1)) (by omega) (by decide)) rfl ?_
      rw [nI_clamp (n := (u - 1)) (by omega)]
      refine J_iload_n C iX10_errorOf_112 rfl rfl ?_
      exact J_iret C E iX10_errorOf_113 (Or.inr ⟨3, m, hn, ha, hh, u, upd wh (u - 1) (hnF hn (va k) m), upd wo k (hnF hn (va k) m), rfl, by decide, rfl, ⟨_, by rw [p2S, if_pos rfl, hv6_5, if_neg (by decide), if_neg (by decide), if_neg (by decide), if_neg (by decide), if_pos rfl, ← hvk (by rw [hv6_5]; decide) (by rw [hv6_5]; decide), if_pos f1]⟩⟩)
    · refine J_st (.int 0 :: []) rfl ?_
      refine J_istore_n [(3, .int 0), (0, .ref (mo 0)), (1, .ref (pn 0)), (2, .int (nI k))] C iX10_errorOf_94 rfl (by decide) rfl ?_
      refine J_aload_n C iX10_errorOf_95 rfl rfl ?_
      refine J_get (.ref (pn 5)) 17 C iX10_errorOf_96 gf_X10_139 rfl rfl ?_
      refine J_aload_n C iX10_errorOf_99 rfl rfl ?_
      refine J_get (.int (nI u)) 17 C iX10_errorOf_100 gf_X10_179 rfl rfl ?_
      refine J_iconst 1 C iX10_errorOf_103 rfl ?_
      refine J_isub C iX10_errorOf_104 ?_
      rw [show (nI u) - 1 = nI (u - 1) from nI_prd (hu1 hv6_5)]
      refine J_aload_n C iX10_errorOf_105 rfl rfl ?_
      refine J_get (.ref (mo 6)) 0 C iX10_errorOf_106 gf_X10_37 rfl rfl ?_
      refine J_iload_n C iX10_errorOf_109 rfl rfl ?_
      refine J_iald 6 C iX10_errorOf_110 rfl (vp_in_nI (n := k) (by omega) (by decide)) ?_
      rw [nI_clamp (n := k) (by omega)]
      rw [upd_s]
      refine J_iast (wMd Z mo pl th sz ea tk dp lr dy ca kn tp kd fr me va (upd wo k (hnF hn (va k) m)) pc ht fs la kh kf kl sh dk sk ++ wPl Z pn (nI m) (nI u) mn hn ha hh dz (upd wh (nI (u - 1)).toNatClampNeg (hnF hn (va k) m)) bg en od wi al) 22 C iX10_errorOf_111 rfl (vp_in_nI (n := (u - 1)) (by omega) (by decide)) rfl ?_
      rw [nI_clamp (n := (u - 1)) (by omega)]
      refine J_iload_n C iX10_errorOf_112 rfl rfl ?_
      exact J_iret C E iX10_errorOf_113 (Or.inl ⟨rfl, m, hn, ha, hh, u, upd wh (u - 1) (hnF hn (va k) m), upd wo k (hnF hn (va k) m), rfl, by rw [p2S, if_pos rfl, hv6_5, if_neg (by decide), if_neg (by decide), if_neg (by decide), if_neg (by decide), if_pos rfl, ← hvk (by rw [hv6_5]; decide) (by rw [hv6_5]; decide), if_neg f1]⟩)
  refine J_tabOut 114 C iX10_errorOf_6 (by have := i32_ne (c := 0) (n := 0) hv6_0 (by decide); have := i32_ne (c := 1) (n := 1) hv6_1 (by decide); have := i32_ne (c := 2) (n := 2) hv6_2 (by decide); have := i32_ne (c := 3) (n := 3) hv6_3 (by decide); have := i32_ne (c := 4) (n := 4) hv6_4 (by decide); have := i32_ne (c := 5) (n := 5) hv6_5 (by decide); omega) rfl ?_
  have h6 : me k = 6 := h06 hv6_0 hv6_1 hv6_2 hv6_3 hv6_4 hv6_5
  refine J_aload_n C iX10_errorOf_114 rfl rfl ?_
  refine J_aload_n C iX10_errorOf_115 rfl rfl ?_
  refine J_iload_n C iX10_errorOf_116 rfl rfl ?_
  refine J_cV (As := [.ref (pn 0), .int (nI k)]) (st := []) (rc2 := (rmK 3).cells) (rs2 := (rmK 3).slots) C iX10_errorOf_117 lm_X10_363 yc_X10_aHouse yv_X10_aHouse (c_X10_aHouse hm hk) (q0 := 0) rfl rfl rfl rfl (rmK_le (by omega) (by decide)) (Nat.le_of_ble_eq_true rfl) rfl rfl ?_
  rintro _ _ (⟨f1, rfl, rfl⟩ | ⟨f1, rfl, rfl⟩)
  · refine J_st (.int 3 :: []) rfl ?_
    exact J_iret C E iX10_errorOf_120 (Or.inr ⟨3, m, hn, ha, hh, u, wh, upd wo k (hnF hn (va k) m), rfl, by decide, rfl, ⟨_, by rw [p2S, if_pos rfl, h6, if_neg (by decide), if_neg (by decide), if_neg (by decide), if_neg (by decide), if_neg (by decide), if_pos rfl, ← hvk (by rw [h6]; decide) (by rw [h6]; decide), if_pos f1]⟩⟩)
  · refine J_st (.int 0 :: []) rfl ?_
    exact J_iret C E iX10_errorOf_120 (Or.inl ⟨rfl, m, hn, ha, hh, u, wh, upd wo k (hnF hn (va k) m), rfl, by rw [p2S, if_pos rfl, h6, if_neg (by decide), if_neg (by decide), if_neg (by decide), if_neg (by decide), if_neg (by decide), if_pos rfl, ← hvk (by rw [h6]; decide) (by rw [h6]; decide), if_neg f1]⟩)

