set_option maxRecDepth 100000 in
set_option maxHeartbeats 4000000 in
theorem c_J6_stringSize_0f7a4 {Z : GZ} {l : Launch} {v : Nat} (hv : v < 1000000) : Ct Z l yJ6_stringSize_0f7a4 cJ6_stringSize_0f7a4 4 (some .int) (rmK 0) [.int (nI v)] [] (fun v1 w => v1 = some (.int (nI (sb_dg v))) ∧ w = []) := by
  refine Ct.ofJ (own := RJ6) (nm := "stringSize") (lv0 := [(0, .int (nI v))]) (by decide) rfl rfl (Nat.le_of_ble_eq_true rfl) rfl (fun X hXl C E => ?_)
  subst hXl
  refine J_room (rc2 := 0) (rs2 := 0) (Nat.le_refl _) (Nat.le_refl _) ?_
  refine J_iconst 1 C iJ6_stringSize_0f7a4_0 rfl ?_
  refine J_istore_n [(1, .int 1), (0, .int (nI v))] C iJ6_stringSize_0f7a4_1 rfl (by decide) rfl ?_
  refine J_iload_n C iJ6_stringSize_0f7a4_2 rfl rfl ?_
  refine J_iflt 11 C iJ6_stringSize_0f7a4_3 rfl (fun h3 => absurd h3 (nI_pos (n := v) (by omega))) (fun h3 => ?_)
  refine J_iconst 0 C iJ6_stringSize_0f7a4_6 rfl ?_
  refine J_istore_n [(1, .int 0), (0, .int (nI v))] C iJ6_stringSize_0f7a4_7 rfl (by decide) rfl ?_
  refine J_iload_n C iJ6_stringSize_0f7a4_8 rfl rfl ?_
  refine J_ineg C iJ6_stringSize_0f7a4_9 ?_
  refine J_istore_n [(0, .int (-(nI v))), (1, .int 0)] C iJ6_stringSize_0f7a4_10 rfl (by decide) rfl ?_
  refine J_bipush (-10) C iJ6_stringSize_0f7a4_11 rfl ?_
  refine J_istore_n [(2, .int (-10)), (0, .int (-(nI v))), (1, .int 0)] C iJ6_stringSize_0f7a4_13 rfl (by decide) rfl ?_
  refine J_iconst 1 C iJ6_stringSize_0f7a4_14 rfl ?_
  refine J_istore_n [(3, .int 1), (2, .int (-10)), (0, .int (-(nI v))), (1, .int 0)] C iJ6_stringSize_0f7a4_15 rfl (by decide) rfl ?_
  refine J_iload_n C iJ6_stringSize_0f7a4_16 rfl rfl ?_
  refine J_bipush 10 C iJ6_stringSize_0f7a4_17 rfl ?_
  refine J_icmpge 42 C iJ6_stringSize_0f7a4_19 rfl (fun h19 => absurd h19 (by decide)) (fun h19 => ?_)
  refine J_iload_n C iJ6_stringSize_0f7a4_22 rfl rfl ?_
  refine J_iload_n C iJ6_stringSize_0f7a4_23 rfl rfl ?_
  by_cases hd1 : v < 10
  · refine J_icmple 31 C iJ6_stringSize_0f7a4_24 rfl (fun h24 => absurd h24 (fun h => absurd ((sb_nle (a := v) (b := 10) (by omega) (by decide)).mp h) (by omega))) (fun h24 => ?_)
    refine J_iload_n C iJ6_stringSize_0f7a4_27 rfl rfl ?_
    refine J_iload_n C iJ6_stringSize_0f7a4_28 rfl rfl ?_
    refine J_iadd C iJ6_stringSize_0f7a4_29 ?_
    exact J_iret C E iJ6_stringSize_0f7a4_30 ⟨congrArg (fun z => some (Value.int z)) (show (1 + 0 : Int32) = nI (sb_dg v) by rw [show sb_dg v = 1 by unfold sb_dg; (repeat' split) <;> omega]; rfl), rfl⟩
  · refine J_icmple 31 C iJ6_stringSize_0f7a4_24 rfl (fun h24 => ?_) (fun h24 => absurd ((sb_nle (a := v) (b := 10) (by omega) (by decide)).mpr (by omega)) h24)
    refine J_bipush 10 C iJ6_stringSize_0f7a4_31 rfl ?_
    refine J_iload_n C iJ6_stringSize_0f7a4_33 rfl rfl ?_
    refine J_imul C iJ6_stringSize_0f7a4_34 ?_
    rw [show (10 * (-10) : Int32) = (-100) from rfl]
    refine J_istore_n [(2, .int (-100)), (3, .int 1), (0, .int (-(nI v))), (1, .int 0)] C iJ6_stringSize_0f7a4_35 rfl (by decide) rfl ?_
    refine J_iinc (1 + 1) [(3, .int (1 + 1)), (2, .int (-100)), (0, .int (-(nI v))), (1, .int 0)] C iJ6_stringSize_0f7a4_36 rfl rfl (by decide) rfl ?_
    rw [show (1 + 1 : Int32) = 2 from rfl]
    refine J_goto 16 C iJ6_stringSize_0f7a4_39 rfl ?_
    refine J_iload_n C iJ6_stringSize_0f7a4_16 rfl rfl ?_
    refine J_bipush 10 C iJ6_stringSize_0f7a4_17 rfl ?_
    refine J_icmpge 42 C iJ6_stringSize_0f7a4_19 rfl (fun h19 => absurd h19 (by decide)) (fun h19 => ?_)
    refine J_iload_n C iJ6_stringSize_0f7a4_22 rfl rfl ?_
    refine J_iload_n C iJ6_stringSize_0f7a4_23 rfl rfl ?_
    by_cases hd2 : v < 100
    · refine J_icmple 31 C iJ6_stringSize_0f7a4_24 rfl (fun h24 => absurd h24 (fun h => absurd ((sb_nle (a := v) (b := 100) (by omega) (by decide)).mp h) (by omega))) (fun h24 => ?_)
      refine J_iload_n C iJ6_stringSize_0f7a4_27 rfl rfl ?_
      refine J_iload_n C iJ6_stringSize_0f7a4_28 rfl rfl ?_
      refine J_iadd C iJ6_stringSize_0f7a4_29 ?_
      exact J_iret C E iJ6_stringSize_0f7a4_30 ⟨congrArg (fun z => some (Value.int z)) (show (2 + 0 : Int32) = nI (sb_dg v) by rw [show sb_dg v = 2 by unfold sb_dg; (repeat' split) <;> omega]; rfl), rfl⟩
    · refine J_icmple 31 C iJ6_stringSize_0f7a4_24 rfl (fun h24 => ?_) (fun h24 => absurd ((sb_nle (a := v) (b := 100) (by omega) (by decide)).mpr (by omega)) h24)
      refine J_bipush 10 C iJ6_stringSize_0f7a4_31 rfl ?_
      refine J_iload_n C iJ6_stringSize_0f7a4_33 rfl rfl ?_
      refine J_imul C iJ6_stringSize_0f7a4_34 ?_
      rw [show (10 * (-100) : Int32) = (-1000) from rfl]
      refine J_istore_n [(2, .int (-1000)), (3, .int 2), (0, .int (-(nI v))), (1, .int 0)] C iJ6_stringSize_0f7a4_35 rfl (by decide) rfl ?_
      refine J_iinc (2 + 1) [(3, .int (2 + 1)), (2, .int (-1000)), (0, .int (-(nI v))), (1, .int 0)] C iJ6_stringSize_0f7a4_36 rfl rfl (by decide) rfl ?_
      rw [show (2 + 1 : Int32) = 3 from rfl]
      refine J_goto 16 C iJ6_stringSize_0f7a4_39 rfl ?_
      refine J_iload_n C iJ6_stringSize_0f7a4_16 rfl rfl ?_
      refine J_bipush 10 C iJ6_stringSize_0f7a4_17 rfl ?_
      refine J_icmpge 42 C iJ6_stringSize_0f7a4_19 rfl (fun h19 => absurd h19 (by decide)) (fun h19 => ?_)
      refine J_iload_n C iJ6_stringSize_0f7a4_22 rfl rfl ?_
      refine J_iload_n C iJ6_stringSize_0f7a4_23 rfl rfl ?_
      by_cases hd3 : v < 1000
      · refine J_icmple 31 C iJ6_stringSize_0f7a4_24 rfl (fun h24 => absurd h24 (fun h => absurd ((sb_nle (a := v) (b := 1000) (by omega) (by decide)).mp h) (by omega))) (fun h24 => ?_)
        refine J_iload_n C iJ6_stringSize_0f7a4_27 rfl rfl ?_
        refine J_iload_n C iJ6_stringSize_0f7a4_28 rfl rfl ?_
        refine J_iadd C iJ6_stringSize_0f7a4_29 ?_
        exact J_iret C E iJ6_stringSize_0f7a4_30 ⟨congrArg (fun z => some (Value.int z)) (show (3 + 0 : Int32) = nI (sb_dg v) by rw [show sb_dg v = 3 by unfold sb_dg; (repeat' split) <;> omega]; rfl), rfl⟩
      · refine J_icmple 31 C iJ6_stringSize_0f7a4_24 rfl (fun h24 => ?_) (fun h24 => absurd ((sb_nle (a := v) (b := 1000) (by omega) (by decide)).mpr (by omega)) h24)
        refine J_bipush 10 C iJ6_stringSize_0f7a4_31 rfl ?_
        refine J_iload_n C iJ6_stringSize_0f7a4_33 rfl rfl ?_
        refine J_imul C iJ6_stringSize_0f7a4_34 ?_
        rw [show (10 * (-1000) : Int32) = (-10000) from rfl]
        refine J_istore_n [(2, .int (-10000)), (3, .int 3), (0, .int (-(nI v))), (1, .int 0)] C iJ6_stringSize_0f7a4_35 rfl (by decide) rfl ?_
        refine J_iinc (3 + 1) [(3, .int (3 + 1)), (2, .int (-10000)), (0, .int (-(nI v))), (1, .int 0)] C iJ6_stringSize_0f7a4_36 rfl rfl (by decide) rfl ?_
        rw [show (3 + 1 : Int32) = 4 from rfl]
        refine J_goto 16 C iJ6_stringSize_0f7a4_39 rfl ?_
        refine J_iload_n C iJ6_stringSize_0f7a4_16 rfl rfl ?_
        refine J_bipush 10 C iJ6_stringSize_0f7a4_17 rfl ?_
        refine J_icmpge 42 C iJ6_stringSize_0f7a4_19 rfl (fun h19 => absurd h19 (by decide)) (fun h19 => ?_)
        refine J_iload_n C iJ6_stringSize_0f7a4_22 rfl rfl ?_
        refine J_iload_n C iJ6_stringSize_0f7a4_23 rfl rfl ?_
        by_cases hd4 : v < 10000
        · refine J_icmple 31 C iJ6_stringSize_0f7a4_24 rfl (fun h24 => absurd h24 (fun h => absurd ((sb_nle (a := v) (b := 10000) (by omega) (by decide)).mp h) (by omega))) (fun h24 => ?_)
          refine J_iload_n C iJ6_stringSize_0f7a4_27 rfl rfl ?_
          refine J_iload_n C iJ6_stringSize_0f7a4_28 rfl rfl ?_
          refine J_iadd C iJ6_stringSize_0f7a4_29 ?_
          exact J_iret C E iJ6_stringSize_0f7a4_30 ⟨congrArg (fun z => some (Value.int z)) (show (4 + 0 : Int32) = nI (sb_dg v) by rw [show sb_dg v = 4 by unfold sb_dg; (repeat' split) <;> omega]; rfl), rfl⟩
        · refine J_icmple 31 C iJ6_stringSize_0f7a4_24 rfl (fun h24 => ?_) (fun h24 => absurd ((sb_nle (a := v) (b := 10000) (by omega) (by decide)).mpr (by omega)) h24)
          refine J_bipush 10 C iJ6_stringSize_0f7a4_31 rfl ?_
          refine J_iload_n C iJ6_stringSize_0f7a4_33 rfl rfl ?_
          refine J_imul C iJ6_stringSize_0f7a4_34 ?_
          rw [show (10 * (-10000) : Int32) = (-100000) from rfl]
          refine J_istore_n [(2, .int (-100000)), (3, .int 4), (0, .int (-(nI v))), (1, .int 0)] C iJ6_stringSize_0f7a4_35 rfl (by decide) rfl ?_
          refine J_iinc (4 + 1) [(3, .int (4 + 1)), (2, .int (-100000)), (0, .int (-(nI v))), (1, .int 0)] C iJ6_stringSize_0f7a4_36 rfl rfl (by decide) rfl ?_
          rw [show (4 + 1 : Int32) = 5 from rfl]
          refine J_goto 16 C iJ6_stringSize_0f7a4_39 rfl ?_
          refine J_iload_n C iJ6_stringSize_0f7a4_16 rfl rfl ?_
          refine J_bipush 10 C iJ6_stringSize_0f7a4_17 rfl ?_
          refine J_icmpge 42 C iJ6_stringSize_0f7a4_19 rfl (fun h19 => absurd h19 (by decide)) (fun h19 => ?_)
          refine J_iload_n C iJ6_stringSize_0f7a4_22 rfl rfl ?_
          refine J_iload_n C iJ6_stringSize_0f7a4_23 rfl rfl ?_
          by_cases hd5 : v < 100000
          · refine J_icmple 31 C iJ6_stringSize_0f7a4_24 rfl (fun h24 => absurd h24 (fun h => absurd ((sb_nle (a := v) (b := 100000) (by omega) (by decide)).mp h) (by omega))) (fun h24 => ?_)
            refine J_iload_n C iJ6_stringSize_0f7a4_27 rfl rfl ?_
            refine J_iload_n C iJ6_stringSize_0f7a4_28 rfl rfl ?_
            refine J_iadd C iJ6_stringSize_0f7a4_29 ?_
            exact J_iret C E iJ6_stringSize_0f7a4_30 ⟨congrArg (fun z => some (Value.int z)) (show (5 + 0 : Int32) = nI (sb_dg v) by rw [show sb_dg v = 5 by unfold sb_dg; (repeat' split) <;> omega]; rfl), rfl⟩
          · refine J_icmple 31 C iJ6_stringSize_0f7a4_24 rfl (fun h24 => ?_) (fun h24 => absurd ((sb_nle (a := v) (b := 100000) (by omega) (by decide)).mpr (by omega)) h24)
            refine J_bipush 10 C iJ6_stringSize_0f7a4_31 rfl ?_
            refine J_iload_n C iJ6_stringSize_0f7a4_33 rfl rfl ?_
            refine J_imul C iJ6_stringSize_0f7a4_34 ?_
            rw [show (10 * (-100000) : Int32) = (-1000000) from rfl]
            refine J_istore_n [(2, .int (-1000000)), (3, .int 5), (0, .int (-(nI v))), (1, .int 0)] C iJ6_stringSize_0f7a4_35 rfl (by decide) rfl ?_
            refine J_iinc (5 + 1) [(3, .int (5 + 1)), (2, .int (-1000000)), (0, .int (-(nI v))), (1, .int 0)] C iJ6_stringSize_0f7a4_36 rfl rfl (by decide) rfl ?_
            rw [show (5 + 1 : Int32) = 6 from rfl]
            refine J_goto 16 C iJ6_stringSize_0f7a4_39 rfl ?_
            refine J_iload_n C iJ6_stringSize_0f7a4_16 rfl rfl ?_
            refine J_bipush 10 C iJ6_stringSize_0f7a4_17 rfl ?_
            refine J_icmpge 42 C iJ6_stringSize_0f7a4_19 rfl (fun h19 => absurd h19 (by decide)) (fun h19 => ?_)
            refine J_iload_n C iJ6_stringSize_0f7a4_22 rfl rfl ?_
            refine J_iload_n C iJ6_stringSize_0f7a4_23 rfl rfl ?_
            refine J_icmple 31 C iJ6_stringSize_0f7a4_24 rfl (fun h24 => absurd h24 (fun h => absurd ((sb_nle (a := v) (b := 1000000) (by omega) (by decide)).mp h) (by omega))) (fun h24 => ?_)
            refine J_iload_n C iJ6_stringSize_0f7a4_27 rfl rfl ?_
            refine J_iload_n C iJ6_stringSize_0f7a4_28 rfl rfl ?_
            refine J_iadd C iJ6_stringSize_0f7a4_29 ?_
            exact J_iret C E iJ6_stringSize_0f7a4_30 ⟨congrArg (fun z => some (Value.int z)) (show (6 + 0 : Int32) = nI (sb_dg v) by rw [show sb_dg v = 6 by unfold sb_dg; (repeat' split) <;> omega]; rfl), rfl⟩

set_option maxRecDepth 100000 in
set_option maxHeartbeats 4000000 in
theorem c_J6_getChars_ba4f3 {Z : GZ} {l : Launch} {v e x cap : Nat} {b : Nat → Int32} (hv : v < 1000000) (hf : sb_Fit b) (he : sb_dg v ≤ e) (hc : e ≤ cap) (hc2 : cap ≤ 65536) : Ct Z l yJ6_getChars_ba4f3 cJ6_getChars_ba4f3 7 (some .int) (rmK 0) [.int (nI v), .int (nI e), .ref x] (arrB Z x cap b) (fun v1 w => (∃ r, v1 = some (.int r)) ∧ ∃ b' : Nat → Int32, w = (arrB Z x cap b') ∧ sb_Fit b' ∧ (∀ j, j < sb_dg v → b' (e - sb_dg v + j) = nI (sb_dec v j)) ∧ ∀ j, j < e - sb_dg v → b' j = b j) := by
  refine Ct.ofJ (own := RJ6) (nm := "getChars") (lv0 := [(0, .int (nI v)), (1, .int (nI e)), (2, .ref x)]) (by decide) rfl rfl (Nat.le_of_ble_eq_true rfl) rfl (fun X hXl C E => ?_)
  subst hXl
  refine J_room (rc2 := 0) (rs2 := 0) (Nat.le_refl _) (Nat.le_refl _) ?_
  have hdg0 : (v < 10 ∧ sb_dg v = 1) ∨ (10 ≤ v ∧ v < 100 ∧ sb_dg v = 2) ∨ (100 ≤ v ∧ v < 1000 ∧ sb_dg v = 3) ∨ (1000 ≤ v ∧ v < 10000 ∧ sb_dg v = 4) ∨ (10000 ≤ v ∧ v < 100000 ∧ sb_dg v = 5) ∨ (100000 ≤ v ∧ sb_dg v = 6) := by unfold sb_dg; (repeat' split) <;> omega
  refine J_iload_n C iJ6_getChars_ba4f3_0 rfl rfl ?_
  refine J_istore [(5, .int (nI e)), (0, .int (nI v)), (1, .int (nI e)), (2, .ref x)] C iJ6_getChars_ba4f3_1 (by decide) rfl ?_
  refine J_iload_n C iJ6_getChars_ba4f3_3 rfl rfl ?_
  refine J_ifge 11 C iJ6_getChars_ba4f3_4 rfl (fun h4 => ?_) (fun h4 => absurd (nI_pos' (n := v) (by omega)) h4)
  refine J_iconst 0 C iJ6_getChars_ba4f3_11 rfl ?_
  refine J_istore [(6, .int 0), (5, .int (nI e)), (0, .int (nI v)), (1, .int (nI e)), (2, .ref x)] C iJ6_getChars_ba4f3_12 (by decide) rfl ?_
  refine J_iload C iJ6_getChars_ba4f3_14 rfl ?_
  refine J_ifne 22 C iJ6_getChars_ba4f3_16 rfl (fun h16 => absurd rfl h16) (fun h16 => ?_)
  refine J_iload_n C iJ6_getChars_ba4f3_19 rfl rfl ?_
  refine J_ineg C iJ6_getChars_ba4f3_20 ?_
  refine J_istore_n [(0, .int (-(nI v))), (6, .int 0), (5, .int (nI e)), (1, .int (nI e)), (2, .ref x)] C iJ6_getChars_ba4f3_21 rfl (by decide) rfl ?_
  refine J_iload_n C iJ6_getChars_ba4f3_22 rfl rfl ?_
  refine J_bipush (-100) C iJ6_getChars_ba4f3_23 rfl ?_
  by_cases hg0 : v < 100
  · refine J_icmpgt 72 C iJ6_getChars_ba4f3_25 rfl (fun h25 => ?_) (fun h25 => absurd ((sb_nlt (a := 100) (b := v) (by decide) (by omega)).mpr hg0) h25)
    refine J_aload_n C iJ6_getChars_ba4f3_72 rfl rfl ?_
    refine J_iinc ((nI e) + (-1)) [(5, .int ((nI e) + (-1))), (0, .int (-(nI v))), (6, .int 0), (1, .int (nI e)), (2, .ref x)] C iJ6_getChars_ba4f3_73 rfl rfl (by decide) rfl ?_
    rw [show (nI e) + (-1) = nI (e - 1) from sb_m1 (by omega)]
    refine J_iload C iJ6_getChars_ba4f3_76 rfl ?_
    refine J_getsDO C iJ6_getChars_ba4f3_78 (tsg_in (i := 1333) (by decide +kernel) rfl) ?_
    refine J_iload_n C iJ6_getChars_ba4f3_81 rfl rfl ?_
    refine J_ineg C iJ6_getChars_ba4f3_82 ?_
    rw [neg2]
    refine J_baldDO (j := (v)) C iJ6_getChars_ba4f3_83 (by omega) ?_
    refine J_bast (arrB Z x cap (upd b (nI (e - 1)).toNatClampNeg (vp_nar .byte (nI (48 + (v) % 10))))) 0 C iJ6_getChars_ba4f3_84 rfl (vp_in_nI (n := (e - 1)) (by omega) (by omega)) rfl ?_
    rw [nI_clamp (n := (e - 1)) (by omega)]
    rw [nar_dig (48 + (v) % 10) (by omega)]
    refine J_iload_n C iJ6_getChars_ba4f3_85 rfl rfl ?_
    refine J_bipush (-9) C iJ6_getChars_ba4f3_86 rfl ?_
    by_cases hl9 : v < 10
    · refine J_icmpge 104 C iJ6_getChars_ba4f3_88 rfl (fun h88 => ?_) (fun h88 => absurd ((sb_nle (a := 9) (b := v) (by decide) (by omega)).mpr (by omega)) h88)
      refine J_iload C iJ6_getChars_ba4f3_104 rfl ?_
      refine J_ifeq 118 C iJ6_getChars_ba4f3_106 rfl (fun h106 => ?_) (fun h106 => absurd (by decide) h106)
      refine J_iload C iJ6_getChars_ba4f3_118 rfl ?_
      exact J_iret C E iJ6_getChars_ba4f3_120 ⟨⟨_, rfl⟩, _, rfl, sb_fitU (hf) (fit_dig _ (by omega)), fun j hj => by
    rw [show sb_dg v = 1 by unfold sb_dg; (repeat' split) <;> omega] at hj ⊢
    have hj9 : j = 0 := by omega
    rcases hj9 with rfl
    · simp only [upd]; rw [if_pos (by omega)]; exact congrArg nI (by rw [sb_dec, show sb_dg v = 1 by unfold sb_dg; (repeat' split) <;> omega]; first | done | (simp only [Nat.reduceSub, Nat.reducePow, Nat.pow_zero, Nat.pow_one, Nat.div_one]; omega) | omega)
    , fun j hj => by
    rw [show sb_dg v = 1 by unfold sb_dg; (repeat' split) <;> omega] at hj
    simp only [upd]
    rw [if_neg (by omega)]⟩
    · refine J_icmpge 104 C iJ6_getChars_ba4f3_88 rfl (fun h88 => absurd h88 (fun h => absurd ((sb_nle (a := 9) (b := v) (by decide) (by omega)).mp h) (by omega))) (fun h88 => ?_)
      refine J_aload_n C iJ6_getChars_ba4f3_91 rfl rfl ?_
      refine J_iinc ((nI (e - 1)) + (-1)) [(5, .int ((nI (e - 1)) + (-1))), (0, .int (-(nI v))), (6, .int 0), (1, .int (nI e)), (2, .ref x)] C iJ6_getChars_ba4f3_92 rfl rfl (by decide) rfl ?_
      rw [show (nI (e - 1)) + (-1) = nI ((e - 1) - 1) from sb_m1 (by omega)]
      refine J_iload C iJ6_getChars_ba4f3_95 rfl ?_
      refine J_getsDT C iJ6_getChars_ba4f3_97 (tsg_in (i := 1335) (by decide +kernel) rfl) ?_
      refine J_iload_n C iJ6_getChars_ba4f3_100 rfl rfl ?_
      refine J_ineg C iJ6_getChars_ba4f3_101 ?_
      rw [neg2]
      refine J_baldDT (j := (v)) C iJ6_getChars_ba4f3_102 (by omega) ?_
      refine J_bast (arrB Z x cap (upd (upd b (e - 1) (nI (48 + (v) % 10))) (nI ((e - 1) - 1)).toNatClampNeg (vp_nar .byte (nI (48 + (v) / 10))))) 0 C iJ6_getChars_ba4f3_103 rfl (vp_in_nI (n := ((e - 1) - 1)) (by omega) (by omega)) rfl ?_
      rw [nI_clamp (n := ((e - 1) - 1)) (by omega)]
      rw [nar_dig (48 + (v) / 10) (by omega)]
      refine J_iload C iJ6_getChars_ba4f3_104 rfl ?_
      refine J_ifeq 118 C iJ6_getChars_ba4f3_106 rfl (fun h106 => ?_) (fun h106 => absurd (by decide) h106)
      refine J_iload C iJ6_getChars_ba4f3_118 rfl ?_
      exact J_iret C E iJ6_getChars_ba4f3_120 ⟨⟨_, rfl⟩, _, rfl, sb_fitU (sb_fitU (hf) (fit_dig _ (by omega))) (fit_dig _ (by omega)), fun j hj => by
    rw [show sb_dg v = 2 by unfold sb_dg; (repeat' split) <;> omega] at hj ⊢
    have hj9 : j = 0 ∨ j = 1 := by omega
    rcases hj9 with rfl | rfl
    · simp only [upd]; rw [if_pos (by omega)]; exact congrArg nI (by rw [sb_dec, show sb_dg v = 2 by unfold sb_dg; (repeat' split) <;> omega]; first | done | (simp only [Nat.reduceSub, Nat.reducePow, Nat.pow_zero, Nat.pow_one, Nat.div_one]; omega) | omega)
    · simp only [upd]; rw [if_neg (by omega), if_pos (by omega)]; exact congrArg nI (by rw [sb_dec, show sb_dg v = 2 by unfold sb_dg; (repeat' split) <;> omega]; first | done | (simp only [Nat.reduceSub, Nat.reducePow, Nat.pow_zero, Nat.pow_one, Nat.div_one]; omega) | omega)
    , fun j hj => by
    rw [show sb_dg v = 2 by unfold sb_dg; (repeat' split) <;> omega] at hj
    simp only [upd]
    rw [if_neg (by omega), if_neg (by omega)]⟩
  · refine J_icmpgt 72 C iJ6_getChars_ba4f3_25 rfl (fun h25 => absurd h25 (fun h => hg0 ((sb_nlt (a := 100) (b := v) (by decide) (by omega)).mp h))) (fun h25 => ?_)
    refine J_iload_n C iJ6_getChars_ba4f3_28 rfl rfl ?_
    refine J_bipush 100 C iJ6_getChars_ba4f3_29 rfl ?_
    refine J_idiv C iJ6_getChars_ba4f3_31 (by decide) ?_
    rw [sb_ndiv (w := v) (by omega)]
    refine J_istore_n [(3, .int (-(nI (v / 100)))), (0, .int (-(nI v))), (6, .int 0), (5, .int (nI e)), (1, .int (nI e)), (2, .ref x)] C iJ6_getChars_ba4f3_32 rfl (by decide) rfl ?_
    refine J_iload_n C iJ6_getChars_ba4f3_33 rfl rfl ?_
    refine J_bipush 100 C iJ6_getChars_ba4f3_34 rfl ?_
    refine J_imul C iJ6_getChars_ba4f3_36 ?_
    refine J_iload_n C iJ6_getChars_ba4f3_37 rfl rfl ?_
    refine J_isub C iJ6_getChars_ba4f3_38 ?_
    rw [sb_nrem (w := v) (by omega)]
    refine J_istore [(4, .int (nI (v % 100))), (3, .int (-(nI (v / 100)))), (0, .int (-(nI v))), (6, .int 0), (5, .int (nI e)), (1, .int (nI e)), (2, .ref x)] C iJ6_getChars_ba4f3_39 (by decide) rfl ?_
    refine J_iload_n C iJ6_getChars_ba4f3_41 rfl rfl ?_
    refine J_istore_n [(0, .int (-(nI (v / 100)))), (4, .int (nI (v % 100))), (3, .int (-(nI (v / 100)))), (6, .int 0), (5, .int (nI e)), (1, .int (nI e)), (2, .ref x)] C iJ6_getChars_ba4f3_42 rfl (by decide) rfl ?_
    refine J_aload_n C iJ6_getChars_ba4f3_43 rfl rfl ?_
    refine J_iinc ((nI e) + (-1)) [(5, .int ((nI e) + (-1))), (0, .int (-(nI (v / 100)))), (4, .int (nI (v % 100))), (3, .int (-(nI (v / 100)))), (6, .int 0), (1, .int (nI e)), (2, .ref x)] C iJ6_getChars_ba4f3_44 rfl rfl (by decide) rfl ?_
    rw [show (nI e) + (-1) = nI (e - 1) from sb_m1 (by omega)]
    refine J_iload C iJ6_getChars_ba4f3_47 rfl ?_
    refine J_getsDO C iJ6_getChars_ba4f3_49 (tsg_in (i := 1333) (by decide +kernel) rfl) ?_
    refine J_iload C iJ6_getChars_ba4f3_52 rfl ?_
    refine J_baldDO (j := (v % 100)) C iJ6_getChars_ba4f3_54 (by omega) ?_
    refine J_bast (arrB Z x cap (upd b (nI (e - 1)).toNatClampNeg (vp_nar .byte (nI (48 + (v % 100) % 10))))) 0 C iJ6_getChars_ba4f3_55 rfl (vp_in_nI (n := (e - 1)) (by omega) (by omega)) rfl ?_
    rw [nI_clamp (n := (e - 1)) (by omega)]
    rw [nar_dig (48 + (v % 100) % 10) (by omega)]
    refine J_aload_n C iJ6_getChars_ba4f3_56 rfl rfl ?_
    refine J_iinc ((nI (e - 1)) + (-1)) [(5, .int ((nI (e - 1)) + (-1))), (0, .int (-(nI (v / 100)))), (4, .int (nI (v % 100))), (3, .int (-(nI (v / 100)))), (6, .int 0), (1, .int (nI e)), (2, .ref x)] C iJ6_getChars_ba4f3_57 rfl rfl (by decide) rfl ?_
    rw [show (nI (e - 1)) + (-1) = nI ((e - 1) - 1) from sb_m1 (by omega)]
    refine J_iload C iJ6_getChars_ba4f3_60 rfl ?_
    refine J_getsDT C iJ6_getChars_ba4f3_62 (tsg_in (i := 1335) (by decide +kernel) rfl) ?_
    refine J_iload C iJ6_getChars_ba4f3_65 rfl ?_
    refine J_baldDT (j := (v % 100)) C iJ6_getChars_ba4f3_67 (by omega) ?_
    refine J_bast (arrB Z x cap (upd (upd b (e - 1) (nI (48 + (v % 100) % 10))) (nI ((e - 1) - 1)).toNatClampNeg (vp_nar .byte (nI (48 + (v % 100) / 10))))) 0 C iJ6_getChars_ba4f3_68 rfl (vp_in_nI (n := ((e - 1) - 1)) (by omega) (by omega)) rfl ?_
    rw [nI_clamp (n := ((e - 1) - 1)) (by omega)]
    rw [nar_dig (48 + (v % 100) / 10) (by omega)]
    refine J_goto 22 C iJ6_getChars_ba4f3_69 rfl ?_
    refine J_iload_n C iJ6_getChars_ba4f3_22 rfl rfl ?_
    refine J_bipush (-100) C iJ6_getChars_ba4f3_23 rfl ?_
    by_cases hg1 : v / 100 < 100
    · refine J_icmpgt 72 C iJ6_getChars_ba4f3_25 rfl (fun h25 => ?_) (fun h25 => absurd ((sb_nlt (a := 100) (b := v / 100) (by decide) (by omega)).mpr hg1) h25)
      refine J_aload_n C iJ6_getChars_ba4f3_72 rfl rfl ?_
      refine J_iinc ((nI ((e - 1) - 1)) + (-1)) [(5, .int ((nI ((e - 1) - 1)) + (-1))), (0, .int (-(nI (v / 100)))), (4, .int (nI (v % 100))), (3, .int (-(nI (v / 100)))), (6, .int 0), (1, .int (nI e)), (2, .ref x)] C iJ6_getChars_ba4f3_73 rfl rfl (by decide) rfl ?_
      rw [show (nI ((e - 1) - 1)) + (-1) = nI (((e - 1) - 1) - 1) from sb_m1 (by omega)]
      refine J_iload C iJ6_getChars_ba4f3_76 rfl ?_
      refine J_getsDO C iJ6_getChars_ba4f3_78 (tsg_in (i := 1333) (by decide +kernel) rfl) ?_
      refine J_iload_n C iJ6_getChars_ba4f3_81 rfl rfl ?_
      refine J_ineg C iJ6_getChars_ba4f3_82 ?_
      rw [neg2]
      refine J_baldDO (j := (v / 100)) C iJ6_getChars_ba4f3_83 (by omega) ?_
      refine J_bast (arrB Z x cap (upd (upd (upd b (e - 1) (nI (48 + (v % 100) % 10))) ((e - 1) - 1) (nI (48 + (v % 100) / 10))) (nI (((e - 1) - 1) - 1)).toNatClampNeg (vp_nar .byte (nI (48 + (v / 100) % 10))))) 0 C iJ6_getChars_ba4f3_84 rfl (vp_in_nI (n := (((e - 1) - 1) - 1)) (by omega) (by omega)) rfl ?_
      rw [nI_clamp (n := (((e - 1) - 1) - 1)) (by omega)]
      rw [nar_dig (48 + (v / 100) % 10) (by omega)]
      refine J_iload_n C iJ6_getChars_ba4f3_85 rfl rfl ?_
      refine J_bipush (-9) C iJ6_getChars_ba4f3_86 rfl ?_
      by_cases hl9 : v / 100 < 10
      · refine J_icmpge 104 C iJ6_getChars_ba4f3_88 rfl (fun h88 => ?_) (fun h88 => absurd ((sb_nle (a := 9) (b := v / 100) (by decide) (by omega)).mpr (by omega)) h88)
        refine J_iload C iJ6_getChars_ba4f3_104 rfl ?_
        refine J_ifeq 118 C iJ6_getChars_ba4f3_106 rfl (fun h106 => ?_) (fun h106 => absurd (by decide) h106)
        refine J_iload C iJ6_getChars_ba4f3_118 rfl ?_
        exact J_iret C E iJ6_getChars_ba4f3_120 ⟨⟨_, rfl⟩, _, rfl, sb_fitU (sb_fitU (sb_fitU (hf) (fit_dig _ (by omega))) (fit_dig _ (by omega))) (fit_dig _ (by omega)), fun j hj => by
    rw [show sb_dg v = 3 by unfold sb_dg; (repeat' split) <;> omega] at hj ⊢
    have hj9 : j = 0 ∨ j = 1 ∨ j = 2 := by omega
    rcases hj9 with rfl | rfl | rfl
    · simp only [upd]; rw [if_pos (by omega)]; exact congrArg nI (by rw [sb_dec, show sb_dg v = 3 by unfold sb_dg; (repeat' split) <;> omega]; first | done | (simp only [Nat.reduceSub, Nat.reducePow, Nat.pow_zero, Nat.pow_one, Nat.div_one]; omega) | omega)
    · simp only [upd]; rw [if_neg (by omega), if_pos (by omega)]; exact congrArg nI (by rw [sb_dec, show sb_dg v = 3 by unfold sb_dg; (repeat' split) <;> omega]; first | done | (simp only [Nat.reduceSub, Nat.reducePow, Nat.pow_zero, Nat.pow_one, Nat.div_one]; omega) | omega)
    · simp only [upd]; rw [if_neg (by omega), if_neg (by omega), if_pos (by omega)]; exact congrArg nI (by rw [sb_dec, show sb_dg v = 3 by unfold sb_dg; (repeat' split) <;> omega]; first | done | (simp only [Nat.reduceSub, Nat.reducePow, Nat.pow_zero, Nat.pow_one, Nat.div_one]; omega) | omega)
    , fun j hj => by
    rw [show sb_dg v = 3 by unfold sb_dg; (repeat' split) <;> omega] at hj
    simp only [upd]
    rw [if_neg (by omega), if_neg (by omega), if_neg (by omega)]⟩
      · refine J_icmpge 104 C iJ6_getChars_ba4f3_88 rfl (fun h88 => absurd h88 (fun h => absurd ((sb_nle (a := 9) (b := v / 100) (by decide) (by omega)).mp h) (by omega))) (fun h88 => ?_)
        refine J_aload_n C iJ6_getChars_ba4f3_91 rfl rfl ?_
        refine J_iinc ((nI (((e - 1) - 1) - 1)) + (-1)) [(5, .int ((nI (((e - 1) - 1) - 1)) + (-1))), (0, .int (-(nI (v / 100)))), (4, .int (nI (v % 100))), (3, .int (-(nI (v / 100)))), (6, .int 0), (1, .int (nI e)), (2, .ref x)] C iJ6_getChars_ba4f3_92 rfl rfl (by decide) rfl ?_
        rw [show (nI (((e - 1) - 1) - 1)) + (-1) = nI ((((e - 1) - 1) - 1) - 1) from sb_m1 (by omega)]
        refine J_iload C iJ6_getChars_ba4f3_95 rfl ?_
        refine J_getsDT C iJ6_getChars_ba4f3_97 (tsg_in (i := 1335) (by decide +kernel) rfl) ?_
        refine J_iload_n C iJ6_getChars_ba4f3_100 rfl rfl ?_
        refine J_ineg C iJ6_getChars_ba4f3_101 ?_
        rw [neg2]
        refine J_baldDT (j := (v / 100)) C iJ6_getChars_ba4f3_102 (by omega) ?_
        refine J_bast (arrB Z x cap (upd (upd (upd (upd b (e - 1) (nI (48 + (v % 100) % 10))) ((e - 1) - 1) (nI (48 + (v % 100) / 10))) (((e - 1) - 1) - 1) (nI (48 + (v / 100) % 10))) (nI ((((e - 1) - 1) - 1) - 1)).toNatClampNeg (vp_nar .byte (nI (48 + (v / 100) / 10))))) 0 C iJ6_getChars_ba4f3_103 rfl (vp_in_nI (n := ((((e - 1) - 1) - 1) - 1)) (by omega) (by omega)) rfl ?_
        rw [nI_clamp (n := ((((e - 1) - 1) - 1) - 1)) (by omega)]
        rw [nar_dig (48 + (v / 100) / 10) (by omega)]
        refine J_iload C iJ6_getChars_ba4f3_104 rfl ?_
        refine J_ifeq 118 C iJ6_getChars_ba4f3_106 rfl (fun h106 => ?_) (fun h106 => absurd (by decide) h106)
        refine J_iload C iJ6_getChars_ba4f3_118 rfl ?_
        exact J_iret C E iJ6_getChars_ba4f3_120 ⟨⟨_, rfl⟩, _, rfl, sb_fitU (sb_fitU (sb_fitU (sb_fitU (hf) (fit_dig _ (by omega))) (fit_dig _ (by omega))) (fit_dig _ (by omega))) (fit_dig _ (by omega)), fun j hj => by
    rw [show sb_dg v = 4 by unfold sb_dg; (repeat' split) <;> omega] at hj ⊢
    have hj9 : j = 0 ∨ j = 1 ∨ j = 2 ∨ j = 3 := by omega
    rcases hj9 with rfl | rfl | rfl | rfl
    · simp only [upd]; rw [if_pos (by omega)]; exact congrArg nI (by rw [sb_dec, show sb_dg v = 4 by unfold sb_dg; (repeat' split) <;> omega]; first | done | (simp only [Nat.reduceSub, Nat.reducePow, Nat.pow_zero, Nat.pow_one, Nat.div_one]; omega) | omega)
    · simp only [upd]; rw [if_neg (by omega), if_pos (by omega)]; exact congrArg nI (by rw [sb_dec, show sb_dg v = 4 by unfold sb_dg; (repeat' split) <;> omega]; first | done | (simp only [Nat.reduceSub, Nat.reducePow, Nat.pow_zero, Nat.pow_one, Nat.div_one]; omega) | omega)
    · simp only [upd]; rw [if_neg (by omega), if_neg (by omega), if_pos (by omega)]; exact congrArg nI (by rw [sb_dec, show sb_dg v = 4 by unfold sb_dg; (repeat' split) <;> omega]; first | done | (simp only [Nat.reduceSub, Nat.reducePow, Nat.pow_zero, Nat.pow_one, Nat.div_one]; omega) | omega)
    · simp only [upd]; rw [if_neg (by omega), if_neg (by omega), if_neg (by omega), if_pos (by omega)]; exact congrArg nI (by rw [sb_dec, show sb_dg v = 4 by unfold sb_dg; (repeat' split) <;> omega]; first | done | (simp only [Nat.reduceSub, Nat.reducePow, Nat.pow_zero, Nat.pow_one, Nat.div_one]; omega) | omega)
    , fun j hj => by
    rw [show sb_dg v = 4 by unfold sb_dg; (repeat' split) <;> omega] at hj
    simp only [upd]
    rw [if_neg (by omega), if_neg (by omega), if_neg (by omega), if_neg (by omega)]⟩
    · refine J_icmpgt 72 C iJ6_getChars_ba4f3_25 rfl (fun h25 => absurd h25 (fun h => hg1 ((sb_nlt (a := 100) (b := v / 100) (by decide) (by omega)).mp h))) (fun h25 => ?_)
      refine J_iload_n C iJ6_getChars_ba4f3_28 rfl rfl ?_
      refine J_bipush 100 C iJ6_getChars_ba4f3_29 rfl ?_
      refine J_idiv C iJ6_getChars_ba4f3_31 (by decide) ?_
      rw [sb_ndiv (w := v / 100) (by omega)]
      refine J_istore_n [(3, .int (-(nI (v / 100 / 100)))), (5, .int (nI ((e - 1) - 1))), (0, .int (-(nI (v / 100)))), (4, .int (nI (v % 100))), (6, .int 0), (1, .int (nI e)), (2, .ref x)] C iJ6_getChars_ba4f3_32 rfl (by decide) rfl ?_
      refine J_iload_n C iJ6_getChars_ba4f3_33 rfl rfl ?_
      refine J_bipush 100 C iJ6_getChars_ba4f3_34 rfl ?_
      refine J_imul C iJ6_getChars_ba4f3_36 ?_
      refine J_iload_n C iJ6_getChars_ba4f3_37 rfl rfl ?_
      refine J_isub C iJ6_getChars_ba4f3_38 ?_
      rw [sb_nrem (w := v / 100) (by omega)]
      refine J_istore [(4, .int (nI ((v / 100) % 100))), (3, .int (-(nI (v / 100 / 100)))), (5, .int (nI ((e - 1) - 1))), (0, .int (-(nI (v / 100)))), (6, .int 0), (1, .int (nI e)), (2, .ref x)] C iJ6_getChars_ba4f3_39 (by decide) rfl ?_
      refine J_iload_n C iJ6_getChars_ba4f3_41 rfl rfl ?_
      refine J_istore_n [(0, .int (-(nI (v / 100 / 100)))), (4, .int (nI ((v / 100) % 100))), (3, .int (-(nI (v / 100 / 100)))), (5, .int (nI ((e - 1) - 1))), (6, .int 0), (1, .int (nI e)), (2, .ref x)] C iJ6_getChars_ba4f3_42 rfl (by decide) rfl ?_
      refine J_aload_n C iJ6_getChars_ba4f3_43 rfl rfl ?_
      refine J_iinc ((nI ((e - 1) - 1)) + (-1)) [(5, .int ((nI ((e - 1) - 1)) + (-1))), (0, .int (-(nI (v / 100 / 100)))), (4, .int (nI ((v / 100) % 100))), (3, .int (-(nI (v / 100 / 100)))), (6, .int 0), (1, .int (nI e)), (2, .ref x)] C iJ6_getChars_ba4f3_44 rfl rfl (by decide) rfl ?_
      rw [show (nI ((e - 1) - 1)) + (-1) = nI (((e - 1) - 1) - 1) from sb_m1 (by omega)]
      refine J_iload C iJ6_getChars_ba4f3_47 rfl ?_
      refine J_getsDO C iJ6_getChars_ba4f3_49 (tsg_in (i := 1333) (by decide +kernel) rfl) ?_
      refine J_iload C iJ6_getChars_ba4f3_52 rfl ?_
      refine J_baldDO (j := ((v / 100) % 100)) C iJ6_getChars_ba4f3_54 (by omega) ?_
      refine J_bast (arrB Z x cap (upd (upd (upd b (e - 1) (nI (48 + (v % 100) % 10))) ((e - 1) - 1) (nI (48 + (v % 100) / 10))) (nI (((e - 1) - 1) - 1)).toNatClampNeg (vp_nar .byte (nI (48 + ((v / 100) % 100) % 10))))) 0 C iJ6_getChars_ba4f3_55 rfl (vp_in_nI (n := (((e - 1) - 1) - 1)) (by omega) (by omega)) rfl ?_
      rw [nI_clamp (n := (((e - 1) - 1) - 1)) (by omega)]
      rw [nar_dig (48 + ((v / 100) % 100) % 10) (by omega)]
      refine J_aload_n C iJ6_getChars_ba4f3_56 rfl rfl ?_
      refine J_iinc ((nI (((e - 1) - 1) - 1)) + (-1)) [(5, .int ((nI (((e - 1) - 1) - 1)) + (-1))), (0, .int (-(nI (v / 100 / 100)))), (4, .int (nI ((v / 100) % 100))), (3, .int (-(nI (v / 100 / 100)))), (6, .int 0), (1, .int (nI e)), (2, .ref x)] C iJ6_getChars_ba4f3_57 rfl rfl (by decide) rfl ?_
      rw [show (nI (((e - 1) - 1) - 1)) + (-1) = nI ((((e - 1) - 1) - 1) - 1) from sb_m1 (by omega)]
      refine J_iload C iJ6_getChars_ba4f3_60 rfl ?_
      refine J_getsDT C iJ6_getChars_ba4f3_62 (tsg_in (i := 1335) (by decide +kernel) rfl) ?_
      refine J_iload C iJ6_getChars_ba4f3_65 rfl ?_
      refine J_baldDT (j := ((v / 100) % 100)) C iJ6_getChars_ba4f3_67 (by omega) ?_
      refine J_bast (arrB Z x cap (upd (upd (upd (upd b (e - 1) (nI (48 + (v % 100) % 10))) ((e - 1) - 1) (nI (48 + (v % 100) / 10))) (((e - 1) - 1) - 1) (nI (48 + ((v / 100) % 100) % 10))) (nI ((((e - 1) - 1) - 1) - 1)).toNatClampNeg (vp_nar .byte (nI (48 + ((v / 100) % 100) / 10))))) 0 C iJ6_getChars_ba4f3_68 rfl (vp_in_nI (n := ((((e - 1) - 1) - 1) - 1)) (by omega) (by omega)) rfl ?_
      rw [nI_clamp (n := ((((e - 1) - 1) - 1) - 1)) (by omega)]
      rw [nar_dig (48 + ((v / 100) % 100) / 10) (by omega)]
      refine J_goto 22 C iJ6_getChars_ba4f3_69 rfl ?_
      refine J_iload_n C iJ6_getChars_ba4f3_22 rfl rfl ?_
      refine J_bipush (-100) C iJ6_getChars_ba4f3_23 rfl ?_
      refine J_icmpgt 72 C iJ6_getChars_ba4f3_25 rfl (fun h25 => ?_) (fun h25 => absurd ((sb_nlt (a := 100) (b := v / 100 / 100) (by decide) (by omega)).mpr (by omega)) h25)
      refine J_aload_n C iJ6_getChars_ba4f3_72 rfl rfl ?_
      refine J_iinc ((nI ((((e - 1) - 1) - 1) - 1)) + (-1)) [(5, .int ((nI ((((e - 1) - 1) - 1) - 1)) + (-1))), (0, .int (-(nI (v / 100 / 100)))), (4, .int (nI ((v / 100) % 100))), (3, .int (-(nI (v / 100 / 100)))), (6, .int 0), (1, .int (nI e)), (2, .ref x)] C iJ6_getChars_ba4f3_73 rfl rfl (by decide) rfl ?_
      rw [show (nI ((((e - 1) - 1) - 1) - 1)) + (-1) = nI (((((e - 1) - 1) - 1) - 1) - 1) from sb_m1 (by omega)]
      refine J_iload C iJ6_getChars_ba4f3_76 rfl ?_
      refine J_getsDO C iJ6_getChars_ba4f3_78 (tsg_in (i := 1333) (by decide +kernel) rfl) ?_
      refine J_iload_n C iJ6_getChars_ba4f3_81 rfl rfl ?_
      refine J_ineg C iJ6_getChars_ba4f3_82 ?_
      rw [neg2]
      refine J_baldDO (j := (v / 100 / 100)) C iJ6_getChars_ba4f3_83 (by omega) ?_
      refine J_bast (arrB Z x cap (upd (upd (upd (upd (upd b (e - 1) (nI (48 + (v % 100) % 10))) ((e - 1) - 1) (nI (48 + (v % 100) / 10))) (((e - 1) - 1) - 1) (nI (48 + ((v / 100) % 100) % 10))) ((((e - 1) - 1) - 1) - 1) (nI (48 + ((v / 100) % 100) / 10))) (nI (((((e - 1) - 1) - 1) - 1) - 1)).toNatClampNeg (vp_nar .byte (nI (48 + (v / 100 / 100) % 10))))) 0 C iJ6_getChars_ba4f3_84 rfl (vp_in_nI (n := (((((e - 1) - 1) - 1) - 1) - 1)) (by omega) (by omega)) rfl ?_
      rw [nI_clamp (n := (((((e - 1) - 1) - 1) - 1) - 1)) (by omega)]
      rw [nar_dig (48 + (v / 100 / 100) % 10) (by omega)]
      refine J_iload_n C iJ6_getChars_ba4f3_85 rfl rfl ?_
      refine J_bipush (-9) C iJ6_getChars_ba4f3_86 rfl ?_
      by_cases hl9 : v / 100 / 100 < 10
      · refine J_icmpge 104 C iJ6_getChars_ba4f3_88 rfl (fun h88 => ?_) (fun h88 => absurd ((sb_nle (a := 9) (b := v / 100 / 100) (by decide) (by omega)).mpr (by omega)) h88)
        refine J_iload C iJ6_getChars_ba4f3_104 rfl ?_
        refine J_ifeq 118 C iJ6_getChars_ba4f3_106 rfl (fun h106 => ?_) (fun h106 => absurd (by decide) h106)
        refine J_iload C iJ6_getChars_ba4f3_118 rfl ?_
        exact J_iret C E iJ6_getChars_ba4f3_120 ⟨⟨_, rfl⟩, _, rfl, sb_fitU (sb_fitU (sb_fitU (sb_fitU (sb_fitU (hf) (fit_dig _ (by omega))) (fit_dig _ (by omega))) (fit_dig _ (by omega))) (fit_dig _ (by omega))) (fit_dig _ (by omega)), fun j hj => by
    rw [show sb_dg v = 5 by unfold sb_dg; (repeat' split) <;> omega] at hj ⊢
    have hj9 : j = 0 ∨ j = 1 ∨ j = 2 ∨ j = 3 ∨ j = 4 := by omega
    rcases hj9 with rfl | rfl | rfl | rfl | rfl
    · simp only [upd]; rw [if_pos (by omega)]; exact congrArg nI (by rw [sb_dec, show sb_dg v = 5 by unfold sb_dg; (repeat' split) <;> omega]; first | done | (simp only [Nat.reduceSub, Nat.reducePow, Nat.pow_zero, Nat.pow_one, Nat.div_one]; omega) | omega)
    · simp only [upd]; rw [if_neg (by omega), if_pos (by omega)]; exact congrArg nI (by rw [sb_dec, show sb_dg v = 5 by unfold sb_dg; (repeat' split) <;> omega]; first | done | (simp only [Nat.reduceSub, Nat.reducePow, Nat.pow_zero, Nat.pow_one, Nat.div_one]; omega) | omega)
    · simp only [upd]; rw [if_neg (by omega), if_neg (by omega), if_pos (by omega)]; exact congrArg nI (by rw [sb_dec, show sb_dg v = 5 by unfold sb_dg; (repeat' split) <;> omega]; first | done | (simp only [Nat.reduceSub, Nat.reducePow, Nat.pow_zero, Nat.pow_one, Nat.div_one]; omega) | omega)
    · simp only [upd]; rw [if_neg (by omega), if_neg (by omega), if_neg (by omega), if_pos (by omega)]; exact congrArg nI (by rw [sb_dec, show sb_dg v = 5 by unfold sb_dg; (repeat' split) <;> omega]; first | done | (simp only [Nat.reduceSub, Nat.reducePow, Nat.pow_zero, Nat.pow_one, Nat.div_one]; omega) | omega)
    · simp only [upd]; rw [if_neg (by omega), if_neg (by omega), if_neg (by omega), if_neg (by omega), if_pos (by omega)]; exact congrArg nI (by rw [sb_dec, show sb_dg v = 5 by unfold sb_dg; (repeat' split) <;> omega]; first | done | (simp only [Nat.reduceSub, Nat.reducePow, Nat.pow_zero, Nat.pow_one, Nat.div_one]; omega) | omega)
    , fun j hj => by
    rw [show sb_dg v = 5 by unfold sb_dg; (repeat' split) <;> omega] at hj
    simp only [upd]
    rw [if_neg (by omega), if_neg (by omega), if_neg (by omega), if_neg (by omega), if_neg (by omega)]⟩
      · refine J_icmpge 104 C iJ6_getChars_ba4f3_88 rfl (fun h88 => absurd h88 (fun h => absurd ((sb_nle (a := 9) (b := v / 100 / 100) (by decide) (by omega)).mp h) (by omega))) (fun h88 => ?_)
        refine J_aload_n C iJ6_getChars_ba4f3_91 rfl rfl ?_
        refine J_iinc ((nI (((((e - 1) - 1) - 1) - 1) - 1)) + (-1)) [(5, .int ((nI (((((e - 1) - 1) - 1) - 1) - 1)) + (-1))), (0, .int (-(nI (v / 100 / 100)))), (4, .int (nI ((v / 100) % 100))), (3, .int (-(nI (v / 100 / 100)))), (6, .int 0), (1, .int (nI e)), (2, .ref x)] C iJ6_getChars_ba4f3_92 rfl rfl (by decide) rfl ?_
        rw [show (nI (((((e - 1) - 1) - 1) - 1) - 1)) + (-1) = nI ((((((e - 1) - 1) - 1) - 1) - 1) - 1) from sb_m1 (by omega)]
        refine J_iload C iJ6_getChars_ba4f3_95 rfl ?_
        refine J_getsDT C iJ6_getChars_ba4f3_97 (tsg_in (i := 1335) (by decide +kernel) rfl) ?_
        refine J_iload_n C iJ6_getChars_ba4f3_100 rfl rfl ?_
        refine J_ineg C iJ6_getChars_ba4f3_101 ?_
        rw [neg2]
        refine J_baldDT (j := (v / 100 / 100)) C iJ6_getChars_ba4f3_102 (by omega) ?_
        refine J_bast (arrB Z x cap (upd (upd (upd (upd (upd (upd b (e - 1) (nI (48 + (v % 100) % 10))) ((e - 1) - 1) (nI (48 + (v % 100) / 10))) (((e - 1) - 1) - 1) (nI (48 + ((v / 100) % 100) % 10))) ((((e - 1) - 1) - 1) - 1) (nI (48 + ((v / 100) % 100) / 10))) (((((e - 1) - 1) - 1) - 1) - 1) (nI (48 + (v / 100 / 100) % 10))) (nI ((((((e - 1) - 1) - 1) - 1) - 1) - 1)).toNatClampNeg (vp_nar .byte (nI (48 + (v / 100 / 100) / 10))))) 0 C iJ6_getChars_ba4f3_103 rfl (vp_in_nI (n := ((((((e - 1) - 1) - 1) - 1) - 1) - 1)) (by omega) (by omega)) rfl ?_
        rw [nI_clamp (n := ((((((e - 1) - 1) - 1) - 1) - 1) - 1)) (by omega)]
        rw [nar_dig (48 + (v / 100 / 100) / 10) (by omega)]
        refine J_iload C iJ6_getChars_ba4f3_104 rfl ?_
        refine J_ifeq 118 C iJ6_getChars_ba4f3_106 rfl (fun h106 => ?_) (fun h106 => absurd (by decide) h106)
        refine J_iload C iJ6_getChars_ba4f3_118 rfl ?_
        exact J_iret C E iJ6_getChars_ba4f3_120 ⟨⟨_, rfl⟩, _, rfl, sb_fitU (sb_fitU (sb_fitU (sb_fitU (sb_fitU (sb_fitU (hf) (fit_dig _ (by omega))) (fit_dig _ (by omega))) (fit_dig _ (by omega))) (fit_dig _ (by omega))) (fit_dig _ (by omega))) (fit_dig _ (by omega)), fun j hj => by
    rw [show sb_dg v = 6 by unfold sb_dg; (repeat' split) <;> omega] at hj ⊢
    have hj9 : j = 0 ∨ j = 1 ∨ j = 2 ∨ j = 3 ∨ j = 4 ∨ j = 5 := by omega
    rcases hj9 with rfl | rfl | rfl | rfl | rfl | rfl
    · simp only [upd]; rw [if_pos (by omega)]; exact congrArg nI (by rw [sb_dec, show sb_dg v = 6 by unfold sb_dg; (repeat' split) <;> omega]; first | done | (simp only [Nat.reduceSub, Nat.reducePow, Nat.pow_zero, Nat.pow_one, Nat.div_one]; omega) | omega)
    · simp only [upd]; rw [if_neg (by omega), if_pos (by omega)]; exact congrArg nI (by rw [sb_dec, show sb_dg v = 6 by unfold sb_dg; (repeat' split) <;> omega]; first | done | (simp only [Nat.reduceSub, Nat.reducePow, Nat.pow_zero, Nat.pow_one, Nat.div_one]; omega) | omega)
    · simp only [upd]; rw [if_neg (by omega), if_neg (by omega), if_pos (by omega)]; exact congrArg nI (by rw [sb_dec, show sb_dg v = 6 by unfold sb_dg; (repeat' split) <;> omega]; first | done | (simp only [Nat.reduceSub, Nat.reducePow, Nat.pow_zero, Nat.pow_one, Nat.div_one]; omega) | omega)
    · simp only [upd]; rw [if_neg (by omega), if_neg (by omega), if_neg (by omega), if_pos (by omega)]; exact congrArg nI (by rw [sb_dec, show sb_dg v = 6 by unfold sb_dg; (repeat' split) <;> omega]; first | done | (simp only [Nat.reduceSub, Nat.reducePow, Nat.pow_zero, Nat.pow_one, Nat.div_one]; omega) | omega)
    · simp only [upd]; rw [if_neg (by omega), if_neg (by omega), if_neg (by omega), if_neg (by omega), if_pos (by omega)]; exact congrArg nI (by rw [sb_dec, show sb_dg v = 6 by unfold sb_dg; (repeat' split) <;> omega]; first | done | (simp only [Nat.reduceSub, Nat.reducePow, Nat.pow_zero, Nat.pow_one, Nat.div_one]; omega) | omega)
    · simp only [upd]; rw [if_neg (by omega), if_neg (by omega), if_neg (by omega), if_neg (by omega), if_neg (by omega), if_pos (by omega)]; exact congrArg nI (by rw [sb_dec, show sb_dg v = 6 by unfold sb_dg; (repeat' split) <;> omega]; first | done | (simp only [Nat.reduceSub, Nat.reducePow, Nat.pow_zero, Nat.pow_one, Nat.div_one]; omega) | omega)
    , fun j hj => by
    rw [show sb_dg v = 6 by unfold sb_dg; (repeat' split) <;> omega] at hj
    simp only [upd]
    rw [if_neg (by omega), if_neg (by omega), if_neg (by omega), if_neg (by omega), if_neg (by omega), if_neg (by omega)]⟩

set_option maxRecDepth 100000 in
set_option maxHeartbeats 4000000 in
theorem c_J5_append_N {Z : GZ} {l : Launch} {x y cap : Nat} {T : List Nat} {b : Nat → Int32} (hT : SbT T cap b) {v : Nat} (hv : v < 1000000) (hl : T.length + sb_dg v ≤ 2000) : Ct Z l yJ5_append_c97b9 cJ5_append_c97b9 4 (some (.object "java/lang/AbstractStringBuilder")) (rmM 5 1 4002) [.ref x, .int (nI v)] (wSo Z x y (nI T.length) ++ arrB Z y cap b) (fun v1 w => v1 = some (.ref x) ∧ ∃ (y' cap' : Nat) (b' : Nat → Int32), w = ((wSo Z x y' (nI (T ++ dTx v).length)) ++ arrB Z y' cap' b') ∧ SbT (T ++ dTx v) cap' b') := by
  refine Ct.ofJ (own := RJ5) (nm := "append") (lv0 := [(0, .ref x), (1, .int (nI v))]) (by decide) rfl rfl (Nat.le_of_ble_eq_true rfl) rfl (fun X hXl C E => ?_)
  subst hXl
  refine J_room (rc2 := 1) (rs2 := 4002) (Nat.le_refl _) (Nat.le_refl _) ?_
  have hl1 := hT.1
  have hl2 := hT.2.1
  have hl3 := sb_cap_ge (T.length + sb_dg v) cap
  have hl4 := cap_4 (m := cap) hl hT.2.1
  refine J_aload_n C iJ5_append_c97b9_0 rfl rfl ?_
  refine J_get (.int (nI T.length)) 0 C iJ5_append_c97b9_1 gf_J5_79 rfl rfl ?_
  refine J_istore_n [(2, .int (nI T.length)), (0, .ref x), (1, .int (nI v))] C iJ5_append_c97b9_4 rfl (by decide) rfl ?_
  refine J_iload_n C iJ5_append_c97b9_5 rfl rfl ?_
  refine J_iload_n C iJ5_append_c97b9_6 rfl rfl ?_
  refine J_cSb (As := [.int (nI v)]) (st := .int (nI T.length) :: []) (rc2 := 1) (rs2 := 4002) (w0 := []) C iJ5_append_c97b9_7 lm_J5_245 yc_J6_stringSize_0f7a4 ys_J6_stringSize_0f7a4 (c_J6_stringSize_0f7a4 (v := v) hv) [] (wSo Z x y (nI T.length) ++ arrB Z y cap b) (by simp only [List.append_assoc, List.append_nil, List.nil_append]) rfl ⟨Nat.le_of_ble_eq_true rfl, Nat.le_of_ble_eq_true rfl⟩ (Nat.le_of_ble_eq_true rfl) (Nat.zero_add _).symm (Nat.zero_add _).symm ?_
  rintro _ _ ⟨rfl, rfl⟩
  refine J_st (.int (nI (sb_dg v)) :: .int (nI T.length) :: []) rfl ?_
  refine J_ws (wSo Z x y (nI T.length) ++ arrB Z y cap b) (by simp only [List.append_assoc, List.append_nil, List.nil_append]) ?_
  refine J_iadd C iJ5_append_c97b9_10 ?_
  rw [show (nI T.length) + (nI (sb_dg v)) = nI (T.length + (sb_dg v)) from nI_add _ _]
  refine J_istore_n [(3, .int (nI (T.length + (sb_dg v)))), (2, .int (nI T.length)), (0, .ref x), (1, .int (nI v))] C iJ5_append_c97b9_11 rfl (by decide) rfl ?_
  refine J_aload_n C iJ5_append_c97b9_12 rfl rfl ?_
  refine J_iload_n C iJ5_append_c97b9_13 rfl rfl ?_
  refine J_room (rc2 := 1 + 0) (rs2 := 4002 + 0) (by omega) (by omega) ?_
  refine J_cUb (As := [.int (nI (T.length + (sb_dg v)))]) (st := []) (rc2 := 0) (rs2 := 0) (w0 := (wSo Z x y (nI T.length) ++ arrB Z y cap b)) (r := (RJ4, TJ4, 4)) (ci := 11) (q0 := 0) C iJ5_append_c97b9_14 lu_J5_100 yc_J5_ensureCapacityInternal_d00df (c_J5_ensureCapacityInternal_d00df (q := (T.length + (sb_dg v))) hT.2.2.1 (by omega) (by omega)) rfl rfl [] [] (by simp only [List.append_assoc, List.append_nil, List.nil_append]) rfl ⟨Nat.le_of_ble_eq_true rfl, Nat.le_of_ble_eq_true rfl⟩ (Nat.le_of_ble_eq_true rfl) rfl rfl ?_
  rintro _ _ ⟨rfl, y5, b5, rfl, hf5, hb5⟩
  refine J_st ([]) rfl ?_
  refine J_ws (wSo Z x y5 (nI T.length) ++ arrB Z y5 (sb_cap (T.length + (sb_dg v)) cap) b5) (by simp only [List.append_assoc, List.append_nil, List.nil_append]) ?_
  refine J_aload_n C iJ5_append_c97b9_17 rfl rfl ?_
  refine J_cUb (As := []) (st := []) (rc2 := 0) (rs2 := 0) (w0 := (wSo Z x y5 (nI T.length))) (r := (RJ4, TJ4, 4)) (ci := 11) (q0 := 0) C iJ5_append_c97b9_18 lu_J5_83 yc_J5_isLatin1_aae02 c_J5_isLatin1_aae02 rfl rfl [] (arrB Z y5 (sb_cap (T.length + (sb_dg v)) cap) b5) (by simp only [List.append_assoc, List.append_nil, List.nil_append]) rfl ⟨Nat.le_of_ble_eq_true rfl, Nat.le_of_ble_eq_true rfl⟩ (Nat.le_of_ble_eq_true rfl) (Nat.zero_add _).symm (Nat.zero_add _).symm ?_
  rintro _ _ ⟨rfl, rfl⟩
  refine J_st (.int 1 :: []) rfl ?_
  refine J_ws (wSo Z x y5 (nI T.length) ++ arrB Z y5 (sb_cap (T.length + (sb_dg v)) cap) b5) (by simp only [List.append_assoc, List.append_nil, List.nil_append]) ?_
  refine J_ifeq 37 C iJ5_append_c97b9_21 rfl (fun h21 => absurd h21 (by decide)) (fun h21 => ?_)
  refine J_iload_n C iJ5_append_c97b9_24 rfl rfl ?_
  refine J_iload_n C iJ5_append_c97b9_25 rfl rfl ?_
  refine J_aload_n C iJ5_append_c97b9_26 rfl rfl ?_
  refine J_get (.ref y5) 0 C iJ5_append_c97b9_27 gf_J5_15 rfl rfl ?_
  refine J_cSb (As := [.int (nI v), .int (nI (T.length + (sb_dg v))), .ref y5]) (st := []) (rc2 := 0) (rs2 := 0) (w0 := (arrB Z y5 (sb_cap (T.length + (sb_dg v)) cap) b5)) C iJ5_append_c97b9_30 lm_J5_248 yc_J6_getChars_ba4f3 ys_J6_getChars_ba4f3 (c_J6_getChars_ba4f3 (v := v) (e := (T.length + (sb_dg v))) hv hf5 (by omega) (by omega) (by omega)) (wSo Z x y5 (nI T.length)) [] (by simp only [List.append_assoc, List.append_nil, List.nil_append]) rfl ⟨Nat.le_of_ble_eq_true rfl, Nat.le_of_ble_eq_true rfl⟩ (Nat.le_of_ble_eq_true rfl) (Nat.zero_add _).symm (Nat.zero_add _).symm ?_
  rintro _ _ ⟨⟨r7, rfl⟩, b7, rfl, hf7, hd7, hk7⟩
  refine J_st (.int r7 :: []) rfl ?_
  refine J_ws (wSo Z x y5 (nI T.length) ++ arrB Z y5 (sb_cap (T.length + (sb_dg v)) cap) b7) (by simp only [List.append_assoc, List.append_nil, List.nil_append]) ?_
  refine J_pop C iJ5_append_c97b9_33 rfl ?_
  refine J_goto 48 C iJ5_append_c97b9_34 rfl ?_
  refine J_aload_n C iJ5_append_c97b9_48 rfl rfl ?_
  refine J_iload_n C iJ5_append_c97b9_49 rfl rfl ?_
  refine J_put (wSo Z x y5 (nI (T.length + (sb_dg v))) ++ arrB Z y5 (sb_cap (T.length + (sb_dg v)) cap) b7) 0 C iJ5_append_c97b9_50 pf_J5_79 rfl rfl rfl (Nat.le_of_ble_eq_true rfl) rfl ?_
  refine J_aload_n C iJ5_append_c97b9_53 rfl rfl ?_
  exact J_aret C E iJ5_append_c97b9_54 (Or.inl ⟨_, rfl⟩) ⟨rfl, y5, _, _, by rw [List.length_append, dTx_len], app_num hT hb5 hf7 hl hd7 hk7⟩

set_option maxRecDepth 100000 in
set_option maxHeartbeats 4000000 in
theorem c_J4_append_N {Z : GZ} {l : Launch} {x y cap : Nat} {T : List Nat} {b : Nat → Int32} (hT : SbT T cap b) {v : Nat} (hv : v < 1000000) (hl : T.length + (dTx v).length ≤ 2000) : Ct Z l yJ4_append_bf812 cJ4_append_bf812 2 (some (.object "java/lang/StringBuilder")) (rmM 6 1 4002) [.ref x, .int (nI v)] (wSo Z x y (nI T.length) ++ arrB Z y cap b) (fun v1 w => v1 = some (.ref x) ∧ ∃ (y' cap' : Nat) (b' : Nat → Int32), w = ((wSo Z x y' (nI (T ++ dTx v).length)) ++ arrB Z y' cap' b') ∧ SbT (T ++ dTx v) cap' b') := by
  refine Ct.ofJ (own := RJ4) (nm := "append") (lv0 := [(0, .ref x), (1, .int (nI v))]) (by decide) rfl rfl (Nat.le_of_ble_eq_true rfl) rfl (fun X hXl C E => ?_)
  subst hXl
  refine J_room (rc2 := 1) (rs2 := 4002) (Nat.le_refl _) (Nat.le_refl _) ?_
  refine J_aload_n C iJ4_append_bf812_0 rfl rfl ?_
  refine J_iload_n C iJ4_append_bf812_1 rfl rfl ?_
  refine J_room (rc2 := 1 + 0) (rs2 := 4002 + 0) (by omega) (by omega) ?_
  refine J_cSUb (As := [.int (nI v)]) (st := []) (rc2 := 0) (rs2 := 0) (w0 := (wSo Z x y (nI T.length) ++ arrB Z y cap b)) (r := (RJ4, TJ4, 4)) (ci := 11) (q0 := 0) C iJ4_append_bf812_2 lsu_J4_53 yc_J5_append_c97b9 (c_J5_append_N hT hv (by rw [← dTx_len]; exact hl)) rfl rfl [] [] (by simp only [List.append_assoc, List.append_nil, List.nil_append]) rfl ⟨Nat.le_of_ble_eq_true rfl, Nat.le_of_ble_eq_true rfl⟩ (Nat.le_of_ble_eq_true rfl) rfl rfl ?_
  rintro _ _ ⟨rfl, y6, c6, b6, rfl, hT6⟩
  refine J_st (.ref x :: []) rfl ?_
  refine J_ws ((wSo Z x y6 (nI (T ++ dTx v).length)) ++ arrB Z y6 c6 b6) (by simp only [List.append_assoc, List.append_nil, List.nil_append]) ?_
  refine J_pop C iJ4_append_bf812_5 rfl ?_
  refine J_aload_n C iJ4_append_bf812_6 rfl rfl ?_
  exact J_aret C E iJ4_append_bf812_7 (Or.inl ⟨_, rfl⟩) ⟨rfl, y6, c6, b6, rfl, hT6⟩

set_option maxRecDepth 100000 in
set_option maxHeartbeats 4000000 in
theorem c_J5_init_d00df {Z : GZ} {l : Launch} {x : Nat} : Ct Z l yJ5_init_d00df cJ5_init_d00df 2 none (rmM 1 1 16) [.ref x, .int 16] (wS0 Z x) (fun v w => v = none ∧ ∃ q : Nat, w = (wSo Z x q 0 ++ arrB Z q 16 (fun _ => 0))) := by
  refine Ct.ofJ (own := RJ5) (nm := "<init>") (lv0 := [(0, .ref x), (1, .int 16)]) (by decide) rfl rfl (Nat.le_of_ble_eq_true rfl) rfl (fun X hXl C E => ?_)
  subst hXl
  refine J_room (rc2 := 1) (rs2 := 16) (Nat.le_refl _) (Nat.le_refl _) ?_
  refine J_aload_n C iJ5_init_d00df_0 rfl rfl ?_
  refine J_objInit C iJ5_init_d00df_1 (tsg_in (i := 1418) (by decide +kernel) rfl) oi_1 oi_2 (Nat.le_of_ble_eq_true rfl) (Nat.le_of_ble_eq_true rfl) ?_
  refine J_getsCS C iJ5_init_d00df_4 (tsg_in (i := 1262) (by decide +kernel) rfl) ?_
  refine J_ifeq 25 C iJ5_init_d00df_7 rfl (fun h7 => absurd h7 (by decide)) (fun h7 => ?_)
  refine J_aload_n C iJ5_init_d00df_10 rfl rfl ?_
  refine J_iload_n C iJ5_init_d00df_11 rfl rfl ?_
  refine J_room (rc2 := 1 + 0) (rs2 := 16 + 0) (by omega) (by omega) ?_
  refine J_newB 16 C iJ5_init_d00df_12 (tsg_in (i := 86) (by decide +kernel) rfl) (by decide) rfl (by omega) (fun n1 => ?_)
  refine J_ws (wS0 Z x ++ arrB Z n1 16 (fun _ => 0)) rfl ?_
  refine J_put (wSo Z x n1 0 ++ arrB Z n1 16 (fun _ => 0)) 0 C iJ5_init_d00df_14 pf_J5_15 rfl rfl rfl (Nat.le_of_ble_eq_true rfl) rfl ?_
  refine J_aload_n C iJ5_init_d00df_17 rfl rfl ?_
  refine J_iconst 0 C iJ5_init_d00df_18 rfl ?_
  refine J_put (wSo Z x n1 0 ++ arrB Z n1 16 (fun _ => 0)) 0 C iJ5_init_d00df_19 pf_J5_22 rfl rfl rfl (Nat.le_of_ble_eq_true rfl) rfl ?_
  refine J_goto 38 C iJ5_init_d00df_22 rfl ?_
  exact J_vret C E iJ5_init_d00df_38 ⟨rfl, n1, rfl⟩

set_option maxRecDepth 100000 in
set_option maxHeartbeats 4000000 in
theorem c_J4_init_da8c8 {Z : GZ} {l : Launch} {x : Nat} : Ct Z l yJ4_init_da8c8 cJ4_init_da8c8 1 none (rmM 2 1 16) [.ref x] (wS0 Z x) (fun v w => v = none ∧ ∃ q : Nat, w = (wSo Z x q 0 ++ arrB Z q 16 (fun _ => 0))) := by
  refine Ct.ofJ (own := RJ4) (nm := "<init>") (lv0 := [(0, .ref x)]) (by decide) rfl rfl (Nat.le_of_ble_eq_true rfl) rfl (fun X hXl C E => ?_)
  subst hXl
  refine J_room (rc2 := 1) (rs2 := 16) (Nat.le_refl _) (Nat.le_refl _) ?_
  refine J_aload_n C iJ4_init_da8c8_0 rfl rfl ?_
  refine J_bipush 16 C iJ4_init_da8c8_1 rfl ?_
  refine J_room (rc2 := 1 + 0) (rs2 := 16 + 0) (by omega) (by omega) ?_
  refine J_cIb (As := [.int 16]) (st := []) (rc2 := 0) (rs2 := 0) (w0 := (wS0 Z x)) C iJ4_init_da8c8_3 lm_J4_1 yc_J5_init_d00df yi_J5_init_d00df c_J5_init_d00df [] [] (by simp only [List.append_assoc, List.append_nil, List.nil_append]) rfl ⟨Nat.le_of_ble_eq_true rfl, Nat.le_of_ble_eq_true rfl⟩ (Nat.le_of_ble_eq_true rfl) rfl rfl ?_
  rintro _ _ ⟨rfl, q4, rfl⟩
  refine J_st ([]) rfl ?_
  refine J_ws (wSo Z x q4 0 ++ arrB Z q4 16 (fun _ => 0)) (by simp only [List.append_assoc, List.append_nil, List.nil_append]) ?_
  exact J_vret C E iJ4_init_da8c8_6 ⟨rfl, q4, rfl⟩

set_option maxRecDepth 100000 in
set_option maxHeartbeats 4000000 in
theorem c_J7_checkLength_df160 {Z : GZ} {l : Launch} {n : Nat} (h : n ≤ 65536) : Ct Z l yJ7_checkLength_df160 cJ7_checkLength_df160 2 none (rmK 0) [.int 0, .int (nI n)] [] (fun v w => v = none ∧ w = []) := by
  refine Ct.ofJ (own := RJ7) (nm := "checkLength") (lv0 := [(0, .int 0), (1, .int (nI n))]) (by decide) rfl rfl (Nat.le_of_ble_eq_true rfl) rfl (fun X hXl C E => ?_)
  subst hXl
  refine J_room (rc2 := 0) (rs2 := 0) (Nat.le_refl _) (Nat.le_refl _) ?_
  refine J_iload_n C iJ7_checkLength_df160_0 rfl rfl ?_
  refine J_iload_n C iJ7_checkLength_df160_1 rfl rfl ?_
  refine J_icmpge 37 C iJ7_checkLength_df160_2 rfl (fun h2 => ?_) (fun h2 => absurd (nI_pos' (n := n) (by omega)) h2)
  exact J_vret C E iJ7_checkLength_df160_37 ⟨rfl, rfl⟩

set_option maxRecDepth 100000 in
set_option maxHeartbeats 4000000 in
theorem c_J7_copyOfRangeByte_39247 {Z : GZ} {l : Launch} {x cap n : Nat} {b : Nat → Int32} (hf : sb_Fit b) (h : n < cap) (hc : cap ≤ 65536) : Ct Z l yJ7_copyOfRangeByte_39247 cJ7_copyOfRangeByte_39247 5 (some (.array .byte)) (rmM 1 1 n) [.ref x, .int 0, .int (nI n)] (arrB Z x cap b) (fun v w => ∃ q : Nat, v = some (.ref q) ∧ w = (arrB Z x cap b ++ arrB Z q n (va_cpy b (fun _ => 0) 0 0 n))) := by
  refine Ct.ofJ (own := RJ7) (nm := "copyOfRangeByte") (lv0 := [(0, .ref x), (1, .int 0), (2, .int (nI n))]) (by decide) rfl rfl (Nat.le_of_ble_eq_true rfl) rfl (fun X hXl C E => ?_)
  subst hXl
  refine J_room (rc2 := 1) (rs2 := n) (Nat.le_refl _) (Nat.le_refl _) ?_
  refine J_iload_n C iJ7_copyOfRangeByte_39247_0 rfl rfl ?_
  refine J_iload_n C iJ7_copyOfRangeByte_39247_1 rfl rfl ?_
  refine J_cSb (As := [.int 0, .int (nI n)]) (st := []) (rc2 := 1) (rs2 := n) (w0 := []) C iJ7_copyOfRangeByte_39247_2 lm_J7_343 yc_J7_checkLength_df160 ys_J7_checkLength_df160 (c_J7_checkLength_df160 (n := n) (by omega)) [] (arrB Z x cap b) (by simp only [List.append_assoc, List.append_nil, List.nil_append]) rfl ⟨Nat.le_of_ble_eq_true rfl, Nat.le_of_ble_eq_true rfl⟩ (Nat.le_of_ble_eq_true rfl) (Nat.zero_add _).symm (Nat.zero_add _).symm ?_
  rintro _ _ ⟨rfl, rfl⟩
  refine J_st ([]) rfl ?_
  refine J_ws (arrB Z x cap b) (by simp only [List.append_assoc, List.append_nil, List.nil_append]) ?_
  refine J_iload_n C iJ7_copyOfRangeByte_39247_5 rfl rfl ?_
  refine J_iload_n C iJ7_copyOfRangeByte_39247_6 rfl rfl ?_
  refine J_isub C iJ7_copyOfRangeByte_39247_7 ?_
  rw [show (nI n) - 0 = nI n from sub_z _]
  refine J_istore_n [(3, .int (nI n)), (0, .ref x), (1, .int 0), (2, .int (nI n))] C iJ7_copyOfRangeByte_39247_8 rfl (by decide) rfl ?_
  refine J_iload_n C iJ7_copyOfRangeByte_39247_9 rfl rfl ?_
  refine J_room (rc2 := 1 + 0) (rs2 := n + (n - n)) (by omega) (by omega) ?_
  refine J_newB n C iJ7_copyOfRangeByte_39247_10 (tsg_in (i := 86) (by decide +kernel) rfl) (nI_pos (n := n) (by omega)) (nI_clamp (n := n) (by omega)) (by omega) (fun n1 => ?_)
  refine J_ws (arrB Z x cap b ++ arrB Z n1 n (fun _ => 0)) rfl ?_
  refine J_astore [(4, .ref n1), (3, .int (nI n)), (0, .ref x), (1, .int 0), (2, .int (nI n))] C iJ7_copyOfRangeByte_39247_12 (by decide) rfl ?_
  refine J_aload_n C iJ7_copyOfRangeByte_39247_14 rfl rfl ?_
  refine J_iload_n C iJ7_copyOfRangeByte_39247_15 rfl rfl ?_
  refine J_aload C iJ7_copyOfRangeByte_39247_16 rfl ?_
  refine J_iconst 0 C iJ7_copyOfRangeByte_39247_18 rfl ?_
  refine J_aload_n C iJ7_copyOfRangeByte_39247_19 rfl rfl ?_
  refine J_alenN (t0 := 2) 0 C iJ7_copyOfRangeByte_39247_20 rfl rfl ?_
  refine J_iload_n C iJ7_copyOfRangeByte_39247_21 rfl rfl ?_
  refine J_isub C iJ7_copyOfRangeByte_39247_22 ?_
  rw [show (nI cap) - 0 = nI cap from sub_z _]
  refine J_iload_n C iJ7_copyOfRangeByte_39247_23 rfl rfl ?_
  refine J_imin C iJ7_copyOfRangeByte_39247_24 (tsg_in (i := 1255) (by decide +kernel) rfl) ma_imin_1 ma_i ma_imin_2 (Nat.le_of_ble_eq_true rfl) (Nat.le_of_ble_eq_true rfl) ?_
  rw [if_pos (nI_lt (a := n) (b := cap) (by omega) (by omega))]
  refine J_copyB (arrB Z x cap b ++ arrB Z n1 n (va_cpy b (fun _ => 0) (Int32.toNatClampNeg 0) (Int32.toNatClampNeg 0) (nI n).toNatClampNeg)) 0 1 C iJ7_copyOfRangeByte_39247_27 (tsg_in (i := 1256) (by decide +kernel) rfl) ac_1 ac_2 ac_3 rfl rfl (by decide) (by decide) (nI_pos (n := n) (by omega)) (by rw [show Int32.toNatClampNeg 0 = 0 from rfl, nI_clamp (n := n) (by omega)]; omega) (by rw [show Int32.toNatClampNeg 0 = 0 from rfl, nI_clamp (n := n) (by omega)]; omega) hf (Nat.le_of_ble_eq_true rfl) (Nat.le_of_ble_eq_true rfl) rfl ?_
  rw [show Int32.toNatClampNeg 0 = 0 from rfl, nI_clamp (n := n) (by omega)]
  refine J_aload C iJ7_copyOfRangeByte_39247_30 rfl ?_
  exact J_aret C E iJ7_copyOfRangeByte_39247_32 (Or.inr ⟨_, rfl⟩) ⟨n1, rfl, rfl⟩

set_option maxRecDepth 100000 in
set_option maxHeartbeats 4000000 in
theorem c_J7_copyOfRange_39247 {Z : GZ} {l : Launch} {x cap n : Nat} {b : Nat → Int32} (hf : sb_Fit b) (h : n ≤ cap) (hc : cap ≤ 65536) : Ct Z l yJ7_copyOfRange_39247 cJ7_copyOfRange_39247 3 (some (.array .byte)) (rmM 2 1 n) [.ref x, .int 0, .int (nI n)] (arrB Z x cap b) (fun v w => ∃ (q : Nat) (b' : Nat → Int32), v = some (.ref q) ∧ w = (arrB Z x cap b ++ arrB Z q n b') ∧ (∀ i, i < n → b' i = b i) ∧ sb_Fit b') := by
  refine Ct.ofJ (own := RJ7) (nm := "copyOfRange") (lv0 := [(0, .ref x), (1, .int 0), (2, .int (nI n))]) (by decide) rfl rfl (Nat.le_of_ble_eq_true rfl) rfl (fun X hXl C E => ?_)
  subst hXl
  refine J_room (rc2 := 1) (rs2 := n) (Nat.le_refl _) (Nat.le_refl _) ?_
  refine J_iload_n C iJ7_copyOfRange_39247_0 rfl rfl ?_
  refine J_ifne 10 C iJ7_copyOfRange_39247_1 rfl (fun h1 => absurd rfl h1) (fun h1 => ?_)
  refine J_iload_n C iJ7_copyOfRange_39247_4 rfl rfl ?_
  refine J_aload_n C iJ7_copyOfRange_39247_5 rfl rfl ?_
  refine J_alenN (t0 := 2) 0 C iJ7_copyOfRange_39247_6 rfl rfl ?_
  by_cases hnc : n = cap
  · refine J_icmpeq 17 C iJ7_copyOfRange_39247_7 rfl (fun h7 => ?_) (fun h7 => absurd (congrArg nI hnc) h7)
    refine J_aload_n C iJ7_copyOfRange_39247_17 rfl rfl ?_
    refine J_room (rc2 := 1 + 0) (rs2 := cap + (n - cap)) (by omega) (by omega) ?_
    refine J_cloneB (N := cap) 0 C iJ7_copyOfRange_39247_18 (tsg_in (i := 1248) (by decide +kernel) rfl) (tsg_in (i := 1249) (by decide +kernel) rfl) (tsg_in (i := 1250) (by decide +kernel) rfl) (tsg_in (i := 1251) (by decide +kernel) rfl) (tsg_in (i := 1252) (by decide +kernel) rfl) (nws_in (i := 1253) (by decide +kernel) rfl) rfl hf (Nat.le_of_ble_eq_true rfl) (Nat.le_of_ble_eq_true rfl) (fun n1 => ?_)
    refine J_ws (arrB Z x cap b ++ arrB Z n1 cap b) rfl ?_
    refine J_castB 1 C iJ7_copyOfRange_39247_21 (tsg_in (i := 1254) (by decide +kernel) rfl) rfl ?_
    exact J_aret C E iJ7_copyOfRange_39247_24 (Or.inr ⟨_, rfl⟩) ⟨n1, b, rfl, by rw [hnc], fun _ _ => rfl, hf⟩
  · refine J_icmpeq 17 C iJ7_copyOfRange_39247_7 rfl (fun h7 => absurd h7 (fun e => hnc ((nI_eq (a := n) (b := cap) (by omega) (by omega)).mp e))) (fun h7 => ?_)
    refine J_aload_n C iJ7_copyOfRange_39247_10 rfl rfl ?_
    refine J_iload_n C iJ7_copyOfRange_39247_11 rfl rfl ?_
    refine J_iload_n C iJ7_copyOfRange_39247_12 rfl rfl ?_
    refine J_room (rc2 := 1 + 0) (rs2 := n + (n - n)) (by omega) (by omega) ?_
    refine J_cSb (As := [.ref x, .int 0, .int (nI n)]) (st := []) (rc2 := 0) (rs2 := (n - n)) (w0 := (arrB Z x cap b)) C iJ7_copyOfRange_39247_13 lm_J7_339 yc_J7_copyOfRangeByte_39247 ys_J7_copyOfRangeByte_39247 (c_J7_copyOfRangeByte_39247 (n := n) hf (by omega) hc) [] [] (by simp only [List.append_assoc, List.append_nil, List.nil_append]) rfl ⟨Nat.le_of_ble_eq_true rfl, Nat.le_of_ble_eq_true rfl⟩ (Nat.le_of_ble_eq_true rfl) rfl rfl ?_
    rintro _ _ ⟨q5, rfl, rfl⟩
    refine J_st (.ref q5 :: []) rfl ?_
    refine J_ws (arrB Z x cap b ++ arrB Z q5 n (va_cpy b (fun _ => 0) 0 0 n)) (by simp only [List.append_assoc, List.append_nil, List.nil_append]) ?_
    exact J_aret C E iJ7_copyOfRange_39247_16 (Or.inr ⟨_, rfl⟩) ⟨q5, _, rfl, rfl, fun i hi => by rw [pk_cpy_in (by omega) (by omega)]; congr 1; omega, sb_fitC hf sb_fit0⟩

set_option maxRecDepth 100000 in
set_option maxHeartbeats 4000000 in
theorem c_J4_length_8abf5 {Z : GZ} {l : Launch} {x y : Nat} {n : Int32} : Ct Z l yJ4_length_8abf5 cJ4_length_8abf5 1 (some .int) (rmK 1) [.ref x] (wSo Z x y n) (fun v w => v = some (.int n) ∧ w = (wSo Z x y n)) := by
  refine Ct.ofJ (own := RJ4) (nm := "length") (lv0 := [(0, .ref x)]) (by decide) rfl rfl (Nat.le_of_ble_eq_true rfl) rfl (fun X hXl C E => ?_)
  subst hXl
  refine J_room (rc2 := 0) (rs2 := 0) (Nat.le_refl _) (Nat.le_refl _) ?_
  refine J_aload_n C iJ4_length_8abf5_0 rfl rfl ?_
  refine J_cSUb (As := []) (st := []) (rc2 := 0) (rs2 := 0) (w0 := (wSo Z x y n)) (r := (RJ4, TJ4, 4)) (ci := 11) (q0 := 0) C iJ4_length_8abf5_1 lsu_J4_343 yc_J5_length_8abf5 c_J5_length_8abf5 rfl rfl [] [] (by simp only [List.append_assoc, List.append_nil, List.nil_append]) rfl ⟨Nat.le_of_ble_eq_true rfl, Nat.le_of_ble_eq_true rfl⟩ (Nat.le_of_ble_eq_true rfl) (Nat.zero_add _).symm (Nat.zero_add _).symm ?_
  rintro _ _ ⟨rfl, rfl⟩
  refine J_st (.int n :: []) rfl ?_
  refine J_ws (wSo Z x y n) (by simp only [List.append_assoc, List.append_nil, List.nil_append]) ?_
  exact J_iret C E iJ4_length_8abf5_4 ⟨rfl, rfl⟩

set_option maxRecDepth 100000 in
set_option maxHeartbeats 4000000 in
theorem c_J0_init_db425 {Z : GZ} {l : Launch} {s x y cap n : Nat} {b : Nat → Int32} (hf : sb_Fit b) (h : n ≤ cap) (hc : cap ≤ 65536) : Ct Z l yJ0_init_db425 cJ0_init_db425 5 none (rmM 3 1 n) [.ref s, .ref x, .null] ((wT0 Z s ++ wSo Z x y (nI n)) ++ arrB Z y cap b) (fun v w => v = none ∧ ∃ (t : Nat) (b' : Nat → Int32), w = (((wTo Z s t ++ wSo Z x y (nI n)) ++ arrB Z y cap b) ++ arrB Z t n b') ∧ (∀ i, i < n → b' i = b i) ∧ sb_Fit b') := by
  refine Ct.ofJ (own := RJ0) (nm := "<init>") (lv0 := [(0, .ref s), (1, .ref x), (2, .null)]) (by decide) rfl rfl (Nat.le_of_ble_eq_true rfl) rfl (fun X hXl C E => ?_)
  subst hXl
  refine J_room (rc2 := 1) (rs2 := n) (Nat.le_refl _) (Nat.le_refl _) ?_
  refine J_aload_n C iJ0_init_db425_0 rfl rfl ?_
  refine J_objInit C iJ0_init_db425_1 (tsg_in (i := 1445) (by decide +kernel) rfl) oi_1 oi_2 (Nat.le_of_ble_eq_true rfl) (Nat.le_of_ble_eq_true rfl) ?_
  refine J_aload_n C iJ0_init_db425_4 rfl rfl ?_
  refine J_cUb (As := []) (st := []) (rc2 := 1) (rs2 := n) (w0 := (wSo Z x y (nI n))) (r := (RJ4, TJ4, 4)) (ci := 11) (q0 := 0) C iJ0_init_db425_5 lu_J0_552 yc_J5_getValue_6d5f1 c_J5_getValue_6d5f1 rfl rfl (wT0 Z s) (arrB Z y cap b) (by simp only [List.append_assoc, List.append_nil, List.nil_append]) rfl ⟨Nat.le_of_ble_eq_true rfl, Nat.le_of_ble_eq_true rfl⟩ (Nat.le_of_ble_eq_true rfl) (Nat.zero_add _).symm (Nat.zero_add _).symm ?_
  rintro _ _ ⟨rfl, rfl⟩
  refine J_st (.ref y :: []) rfl ?_
  refine J_ws ((wT0 Z s ++ wSo Z x y (nI n)) ++ arrB Z y cap b) (by simp only [List.append_assoc, List.append_nil, List.nil_append]) ?_
  refine J_astore_n [(3, .ref y), (0, .ref s), (1, .ref x), (2, .null)] C iJ0_init_db425_8 rfl (by decide) rfl ?_
  refine J_aload_n C iJ0_init_db425_9 rfl rfl ?_
  refine J_cUb (As := []) (st := []) (rc2 := 1) (rs2 := n) (w0 := (wSo Z x y (nI n))) (r := (RJ4, TJ4, 4)) (ci := 11) (q0 := 0) C iJ0_init_db425_10 lu_J0_549 yc_J4_length_8abf5 c_J4_length_8abf5 rfl rfl (wT0 Z s) (arrB Z y cap b) (by simp only [List.append_assoc, List.append_nil, List.nil_append]) rfl ⟨Nat.le_of_ble_eq_true rfl, Nat.le_of_ble_eq_true rfl⟩ (Nat.le_of_ble_eq_true rfl) (Nat.zero_add _).symm (Nat.zero_add _).symm ?_
  rintro _ _ ⟨rfl, rfl⟩
  refine J_st (.int (nI n) :: []) rfl ?_
  refine J_ws ((wT0 Z s ++ wSo Z x y (nI n)) ++ arrB Z y cap b) (by simp only [List.append_assoc, List.append_nil, List.nil_append]) ?_
  refine J_istore [(4, .int (nI n)), (3, .ref y), (0, .ref s), (1, .ref x), (2, .null)] C iJ0_init_db425_13 (by decide) rfl ?_
  refine J_aload_n C iJ0_init_db425_15 rfl rfl ?_
  refine J_cUb (As := []) (st := []) (rc2 := 1) (rs2 := n) (w0 := (wSo Z x y (nI n))) (r := (RJ4, TJ4, 4)) (ci := 11) (q0 := 0) C iJ0_init_db425_16 lu_J0_1047 yc_J5_isLatin1_aae02 c_J5_isLatin1_aae02 rfl rfl (wT0 Z s) (arrB Z y cap b) (by simp only [List.append_assoc, List.append_nil, List.nil_append]) rfl ⟨Nat.le_of_ble_eq_true rfl, Nat.le_of_ble_eq_true rfl⟩ (Nat.le_of_ble_eq_true rfl) (Nat.zero_add _).symm (Nat.zero_add _).symm ?_
  rintro _ _ ⟨rfl, rfl⟩
  refine J_st (.int 1 :: []) rfl ?_
  refine J_ws ((wT0 Z s ++ wSo Z x y (nI n)) ++ arrB Z y cap b) (by simp only [List.append_assoc, List.append_nil, List.nil_append]) ?_
  refine J_ifeq 41 C iJ0_init_db425_19 rfl (fun h19 => absurd h19 (by decide)) (fun h19 => ?_)
  refine J_aload_n C iJ0_init_db425_22 rfl rfl ?_
  refine J_iconst 0 C iJ0_init_db425_23 rfl ?_
  refine J_putF E ((wT0 Z s ++ wSo Z x y (nI n)) ++ arrB Z y cap b) 0 C iJ0_init_db425_24 pff_J0_15 rfl rfl rfl (Nat.le_of_ble_eq_true rfl) rfl ?_
  refine J_aload_n C iJ0_init_db425_27 rfl rfl ?_
  refine J_aload_n C iJ0_init_db425_28 rfl rfl ?_
  refine J_iconst 0 C iJ0_init_db425_29 rfl ?_
  refine J_iload C iJ0_init_db425_30 rfl ?_
  refine J_room (rc2 := 1 + 0) (rs2 := n + (n - n)) (by omega) (by omega) ?_
  refine J_cSb (As := [.ref y, .int 0, .int (nI n)]) (st := .ref s :: []) (rc2 := 0) (rs2 := (n - n)) (w0 := (arrB Z y cap b)) C iJ0_init_db425_32 lm_J0_54 yc_J7_copyOfRange_39247 ys_J7_copyOfRange_39247 (c_J7_copyOfRange_39247 (n := n) hf (by omega) (by omega)) (wT0 Z s ++ wSo Z x y (nI n)) [] (by simp only [List.append_assoc, List.append_nil, List.nil_append]) rfl ⟨Nat.le_of_ble_eq_true rfl, Nat.le_of_ble_eq_true rfl⟩ (Nat.le_of_ble_eq_true rfl) rfl rfl ?_
  rintro _ _ ⟨q5, b5, rfl, rfl, hb5, hf5⟩
  refine J_st (.ref q5 :: .ref s :: []) rfl ?_
  refine J_ws (((wT0 Z s ++ wSo Z x y (nI n)) ++ arrB Z y cap b) ++ arrB Z q5 n b5) (by simp only [List.append_assoc, List.append_nil, List.nil_append]) ?_
  refine J_putF E (((wTo Z s q5 ++ wSo Z x y (nI n)) ++ arrB Z y cap b) ++ arrB Z q5 n b5) 0 C iJ0_init_db425_35 pff_J0_9 rfl rfl rfl (Nat.le_of_ble_eq_true rfl) rfl ?_
  refine J_goto 97 C iJ0_init_db425_38 rfl ?_
  exact J_vret C E iJ0_init_db425_97 ⟨rfl, q5, b5, rfl, hb5, hf5⟩

set_option maxRecDepth 100000 in
set_option maxHeartbeats 4000000 in
theorem c_J0_init_81219 {Z : GZ} {l : Launch} {s x y cap n : Nat} {b : Nat → Int32} (hf : sb_Fit b) (h : n ≤ cap) (hc : cap ≤ 65536) : Ct Z l yJ0_init_81219 cJ0_init_81219 2 none (rmM 4 1 n) [.ref s, .ref x] ((wT0 Z s ++ wSo Z x y (nI n)) ++ arrB Z y cap b) (fun v w => v = none ∧ ∃ (t : Nat) (b' : Nat → Int32), w = (((wTo Z s t ++ wSo Z x y (nI n)) ++ arrB Z y cap b) ++ arrB Z t n b') ∧ (∀ i, i < n → b' i = b i) ∧ sb_Fit b') := by
  refine Ct.ofJ (own := RJ0) (nm := "<init>") (lv0 := [(0, .ref s), (1, .ref x)]) (by decide) rfl rfl (Nat.le_of_ble_eq_true rfl) rfl (fun X hXl C E => ?_)
  subst hXl
  refine J_room (rc2 := 1) (rs2 := n) (Nat.le_refl _) (Nat.le_refl _) ?_
  refine J_aload_n C iJ0_init_81219_0 rfl rfl ?_
  refine J_aload_n C iJ0_init_81219_1 rfl rfl ?_
  refine J_null C iJ0_init_81219_2 ?_
  refine J_room (rc2 := 1 + 0) (rs2 := n + (n - n)) (by omega) (by omega) ?_
  refine J_cIb (As := [.ref x, .null]) (st := []) (rc2 := 0) (rs2 := (n - n)) (w0 := ((wT0 Z s ++ wSo Z x y (nI n)) ++ arrB Z y cap b)) C iJ0_init_81219_3 lm_J0_489 yc_J0_init_db425 yi_J0_init_db425 (c_J0_init_db425 (n := n) hf h hc) [] [] (by simp only [List.append_assoc, List.append_nil, List.nil_append]) rfl ⟨Nat.le_of_ble_eq_true rfl, Nat.le_of_ble_eq_true rfl⟩ (Nat.le_of_ble_eq_true rfl) rfl rfl ?_
  rintro _ _ ⟨rfl, q5, b5, rfl, hb5, hf5⟩
  refine J_st ([]) rfl ?_
  refine J_ws (((wTo Z s q5 ++ wSo Z x y (nI n)) ++ arrB Z y cap b) ++ arrB Z q5 n b5) (by simp only [List.append_assoc, List.append_nil, List.nil_append]) ?_
  exact J_vret C E iJ0_init_81219_6 ⟨rfl, q5, b5, rfl, hb5, hf5⟩

set_option maxRecDepth 100000 in
set_option maxHeartbeats 4000000 in
theorem c_J4_toString_0e30d {Z : GZ} {l : Launch} {x y cap : Nat} {T : List Nat} {b : Nat → Int32} (hT : SbT T cap b) (hl : T.length ≤ 2000) : Ct Z l yJ4_toString_0e30d cJ4_toString_0e30d 1 (some (.object "java/lang/String")) (rmM 5 2 2004) [.ref x] (wSo Z x y (nI T.length) ++ arrB Z y cap b) (fun v w => ∃ (s t : Nat) (b' : Nat → Int32), v = some (.ref s) ∧ w = (((wTo Z s t ++ wSo Z x y (nI T.length)) ++ arrB Z y cap b) ++ arrB Z t T.length b') ∧ TxT T b') := by
  refine Ct.ofJ (own := RJ4) (nm := "toString") (lv0 := [(0, .ref x)]) (by decide) rfl rfl (Nat.le_of_ble_eq_true rfl) rfl (fun X hXl C E => ?_)
  subst hXl
  refine J_room (rc2 := 2) (rs2 := 2004) (Nat.le_refl _) (Nat.le_refl _) ?_
  have hl1 := hT.1
  have hl2 := hT.2.1
  refine J_room (rc2 := 1 + 1) (rs2 := 4 + 2000) (by omega) (by omega) ?_
  refine J_new (ci := 10) [.null, .int 0, .int 0, .int 0] tyJ0 C iJ4_toString_0e30d_0 rfl lay_J0 tyJ0_ok (tsg_in (i := 1437) (by decide +kernel) rfl) (tsg_in (i := 1438) (by decide +kernel) rfl) (tsg_in (i := 46) (by decide +kernel) rfl) df_J0 (fun n1 => ?_)
  refine J_ws ((wSo Z x y (nI T.length) ++ arrB Z y cap b) ++ wT0 Z n1) rfl ?_
  refine J_dup C iJ4_toString_0e30d_3 rfl ?_
  refine J_aload_n C iJ4_toString_0e30d_4 rfl rfl ?_
  refine J_perm ((wT0 Z n1 ++ wSo Z x y (nI T.length)) ++ arrB Z y cap b) (List.perm_append_comm) ?_
  refine J_room (rc2 := 1 + 0) (rs2 := T.length + (2000 - T.length)) (by omega) (by omega) ?_
  refine J_cIb (As := [.ref x]) (st := .ref n1 :: []) (rc2 := 0) (rs2 := (2000 - T.length)) (w0 := ((wT0 Z n1 ++ wSo Z x y (nI T.length)) ++ arrB Z y cap b)) C iJ4_toString_0e30d_5 lm_J4_137 yc_J0_init_81219 yi_J0_init_81219 (c_J0_init_81219 (n := T.length) hT.2.2.1 hT.1 (Nat.le_trans hT.2.1 (by decide))) [] [] (by simp only [List.append_assoc, List.append_nil, List.nil_append]) rfl ⟨Nat.le_of_ble_eq_true rfl, Nat.le_of_ble_eq_true rfl⟩ (Nat.le_of_ble_eq_true rfl) rfl rfl ?_
  rintro _ _ ⟨rfl, q5, b5, rfl, hb5, hf5⟩
  refine J_st (.ref n1 :: []) rfl ?_
  refine J_ws (((wTo Z n1 q5 ++ wSo Z x y (nI T.length)) ++ arrB Z y cap b) ++ arrB Z q5 T.length b5) (by simp only [List.append_assoc, List.append_nil, List.nil_append]) ?_
  exact J_aret C E iJ4_toString_0e30d_8 (Or.inl ⟨_, rfl⟩) ⟨n1, q5, b5, rfl, rfl, hf5, fun i hi => by rw [hb5 i hi, hT.2.2.2 i hi]⟩

set_option maxRecDepth 100000 in
set_option maxHeartbeats 4000000 in
theorem c_J3_checkIndex_n {Z : GZ} {l : Launch} {j n : Nat} (hj : j < n) (hn : n ≤ 65536) : Ct Z l yJ3_checkIndex_8e157 cJ3_checkIndex_8e157 3 (some .int) (rmK 0) [.int (nI j), .int (nI n), .null] [] (fun v w => v = some (.int (nI j)) ∧ w = []) := by
  refine Ct.ofJ (own := RJ3) (nm := "checkIndex") (lv0 := [(0, .int (nI j)), (1, .int (nI n)), (2, .null)]) (by decide) rfl rfl (Nat.le_of_ble_eq_true rfl) rfl (fun X hXl C E => ?_)
  subst hXl
  refine J_room (rc2 := 0) (rs2 := 0) (Nat.le_refl _) (Nat.le_refl _) ?_
  refine J_iload_n C iJ3_checkIndex_8e157_0 rfl rfl ?_
  refine J_iflt 9 C iJ3_checkIndex_8e157_1 rfl (fun h1 => absurd h1 (nI_pos (n := j) (by omega))) (fun h1 => ?_)
  refine J_iload_n C iJ3_checkIndex_8e157_4 rfl rfl ?_
  refine J_iload_n C iJ3_checkIndex_8e157_5 rfl rfl ?_
  refine J_icmplt 16 C iJ3_checkIndex_8e157_6 rfl (fun h6 => ?_) (fun h6 => absurd (nI_lt (a := j) (b := n) (by omega) (by omega)) h6)
  refine J_iload_n C iJ3_checkIndex_8e157_16 rfl rfl ?_
  exact J_iret C E iJ3_checkIndex_8e157_17 ⟨rfl, rfl⟩

set_option maxRecDepth 100000 in
set_option maxHeartbeats 4000000 in
theorem c_J3_checkIndex_r {Z : GZ} {l : Launch} {j n t : Nat} (hj : j < n) (hn : n ≤ 65536) : Ct Z l yJ3_checkIndex_8e157 cJ3_checkIndex_8e157 3 (some .int) (rmK 0) [.int (nI j), .int (nI n), .ref t] [] (fun v w => v = some (.int (nI j)) ∧ w = []) := by
  refine Ct.ofJ (own := RJ3) (nm := "checkIndex") (lv0 := [(0, .int (nI j)), (1, .int (nI n)), (2, .ref t)]) (by decide) rfl rfl (Nat.le_of_ble_eq_true rfl) rfl (fun X hXl C E => ?_)
  subst hXl
  refine J_room (rc2 := 0) (rs2 := 0) (Nat.le_refl _) (Nat.le_refl _) ?_
  refine J_iload_n C iJ3_checkIndex_8e157_0 rfl rfl ?_
  refine J_iflt 9 C iJ3_checkIndex_8e157_1 rfl (fun h1 => absurd h1 (nI_pos (n := j) (by omega))) (fun h1 => ?_)
  refine J_iload_n C iJ3_checkIndex_8e157_4 rfl rfl ?_
  refine J_iload_n C iJ3_checkIndex_8e157_5 rfl rfl ?_
  refine J_icmplt 16 C iJ3_checkIndex_8e157_6 rfl (fun h6 => ?_) (fun h6 => absurd (nI_lt (a := j) (b := n) (by omega) (by omega)) h6)
  refine J_iload_n C iJ3_checkIndex_8e157_16 rfl rfl ?_
  exact J_iret C E iJ3_checkIndex_8e157_17 ⟨rfl, rfl⟩

set_option maxRecDepth 100000 in
set_option maxHeartbeats 4000000 in
theorem c_J0_checkIndex_df160 {Z : GZ} {l : Launch} {j n : Nat} (hj : j < n) (hn : n ≤ 65536) : Ct Z l yJ0_checkIndex_df160 cJ0_checkIndex_df160 2 none (rmK 1) [.int (nI j), .int (nI n)] [] (fun v w => v = none ∧ w = []) := by
  refine Ct.ofJ (own := RJ0) (nm := "checkIndex") (lv0 := [(0, .int (nI j)), (1, .int (nI n))]) (by decide) rfl rfl (Nat.le_of_ble_eq_true rfl) rfl (fun X hXl C E => ?_)
  subst hXl
  refine J_room (rc2 := 0) (rs2 := 0) (Nat.le_refl _) (Nat.le_refl _) ?_
  refine J_iload_n C iJ0_checkIndex_df160_0 rfl rfl ?_
  refine J_iload_n C iJ0_checkIndex_df160_1 rfl rfl ?_
  refine J_getsFm C iJ0_checkIndex_df160_2 (tsg_in (i := 853) (by decide +kernel) rfl) ?_ (fun t9 => ?_)
  · refine J_cSb (As := [.int (nI j), .int (nI n), .null]) (st := []) (rc2 := 0) (rs2 := 0) (w0 := []) C iJ0_checkIndex_df160_5 lm_J0_1059 yc_J3_checkIndex_8e157 ys_J3_checkIndex_8e157 (c_J3_checkIndex_n (j := j) (n := n) hj hn) [] [] (by simp only [List.append_assoc, List.append_nil, List.nil_append]) rfl ⟨Nat.le_of_ble_eq_true rfl, Nat.le_of_ble_eq_true rfl⟩ (Nat.le_of_ble_eq_true rfl) (Nat.zero_add _).symm (Nat.zero_add _).symm ?_
    rintro _ _ ⟨rfl, rfl⟩
    refine J_st (.int (nI j) :: []) rfl ?_
    refine J_ws [] (by simp only [List.append_assoc, List.append_nil, List.nil_append]) ?_
    refine J_pop C iJ0_checkIndex_df160_8 rfl ?_
    exact J_vret C E iJ0_checkIndex_df160_9 ⟨rfl, rfl⟩
  · refine J_cSb (As := [.int (nI j), .int (nI n), .ref t9]) (st := []) (rc2 := 0) (rs2 := 0) (w0 := []) C iJ0_checkIndex_df160_5 lm_J0_1059 yc_J3_checkIndex_8e157 ys_J3_checkIndex_8e157 (c_J3_checkIndex_r (j := j) (n := n) hj hn) [] [] (by simp only [List.append_assoc, List.append_nil, List.nil_append]) rfl ⟨Nat.le_of_ble_eq_true rfl, Nat.le_of_ble_eq_true rfl⟩ (Nat.le_of_ble_eq_true rfl) (Nat.zero_add _).symm (Nat.zero_add _).symm ?_
    rintro _ _ ⟨rfl, rfl⟩
    refine J_st (.int (nI j) :: []) rfl ?_
    refine J_ws [] (by simp only [List.append_assoc, List.append_nil, List.nil_append]) ?_
    refine J_pop C iJ0_checkIndex_df160_8 rfl ?_
    exact J_vret C E iJ0_checkIndex_df160_9 ⟨rfl, rfl⟩

set_option maxRecDepth 100000 in
set_option maxHeartbeats 4000000 in
theorem c_J1_charAt_3b067 {Z : GZ} {l : Launch} {y n j c : Nat} {b : Nat → Int32} (hj : j < n) (hn : n ≤ 65536) (hb : b j = nI c) (hc : c < 128) : Ct Z l yJ1_charAt_3b067 cJ1_charAt_3b067 2 (some .char) (rmK 2) [.ref y, .int (nI j)] (arrB Z y n b) (fun v w => v = some (.int (nI c)) ∧ w = (arrB Z y n b)) := by
  refine Ct.ofJ (own := RJ1) (nm := "charAt") (lv0 := [(0, .ref y), (1, .int (nI j))]) (by decide) rfl rfl (Nat.le_of_ble_eq_true rfl) rfl (fun X hXl C E => ?_)
  subst hXl
  refine J_room (rc2 := 0) (rs2 := 0) (Nat.le_refl _) (Nat.le_refl _) ?_
  refine J_iload_n C iJ1_charAt_3b067_0 rfl rfl ?_
  refine J_aload_n C iJ1_charAt_3b067_1 rfl rfl ?_
  refine J_alenN (t0 := 2) 0 C iJ1_charAt_3b067_2 rfl rfl ?_
  refine J_cSb (As := [.int (nI j), .int (nI n)]) (st := []) (rc2 := 0) (rs2 := 0) (w0 := []) C iJ1_charAt_3b067_3 lm_J1_9 yc_J0_checkIndex_df160 ys_J0_checkIndex_df160 (c_J0_checkIndex_df160 (j := j) (n := n) hj hn) [] (arrB Z y n b) (by simp only [List.append_assoc, List.append_nil, List.nil_append]) rfl ⟨Nat.le_of_ble_eq_true rfl, Nat.le_of_ble_eq_true rfl⟩ (Nat.le_of_ble_eq_true rfl) (Nat.zero_add _).symm (Nat.zero_add _).symm ?_
  rintro _ _ ⟨rfl, rfl⟩
  refine J_st ([]) rfl ?_
  refine J_ws (arrB Z y n b) (by simp only [List.append_assoc, List.append_nil, List.nil_append]) ?_
  refine J_aload_n C iJ1_charAt_3b067_6 rfl rfl ?_
  refine J_iload_n C iJ1_charAt_3b067_7 rfl rfl ?_
  refine J_bald 0 C iJ1_charAt_3b067_8 rfl (vp_in_nI (n := j) (by omega) (by omega)) ?_
  rw [nI_clamp (n := j) (by omega)]
  rw [hb]
  refine J_sipush 255 C iJ1_charAt_3b067_9 rfl ?_
  refine J_iand C iJ1_charAt_3b067_12 ?_
  refine J_i2c C iJ1_charAt_3b067_13 ?_
  rw [(chr_ok c hc).1]
  exact J_nret C E iJ1_charAt_3b067_14 (chr_ok c hc).2 ⟨rfl, rfl⟩

set_option maxRecDepth 100000 in
set_option maxHeartbeats 4000000 in
theorem c_J0_charAt_5068e {Z : GZ} {l : Launch} {s y n j c : Nat} {b : Nat → Int32} (hj : j < n) (hn : n ≤ 65536) (hb : b j = nI c) (hc : c < 128) : Ct Z l yJ0_charAt_5068e cJ0_charAt_5068e 2 (some .char) (rmK 3) [.ref s, .int (nI j)] (wTo Z s y ++ arrB Z y n b) (fun v w => v = some (.int (nI c)) ∧ w = (wTo Z s y ++ arrB Z y n b)) := by
  refine Ct.ofJ (own := RJ0) (nm := "charAt") (lv0 := [(0, .ref s), (1, .int (nI j))]) (by decide) rfl rfl (Nat.le_of_ble_eq_true rfl) rfl (fun X hXl C E => ?_)
  subst hXl
  refine J_room (rc2 := 0) (rs2 := 0) (Nat.le_refl _) (Nat.le_refl _) ?_
  refine J_aload_n C iJ0_charAt_5068e_0 rfl rfl ?_
  refine J_cVb (As := []) (st := []) (rc2 := 0) (rs2 := 0) (w0 := (wTo Z s y)) (q0 := 0) C iJ0_charAt_5068e_1 lm_J0_492 yc_J0_isLatin1_aae02 yv_J0_isLatin1_aae02 c_J0_isLatin1_D rfl rfl rfl [] (arrB Z y n b) (by simp only [List.append_assoc, List.append_nil, List.nil_append]) rfl ⟨Nat.le_of_ble_eq_true rfl, Nat.le_of_ble_eq_true rfl⟩ (Nat.le_of_ble_eq_true rfl) (Nat.zero_add _).symm (Nat.zero_add _).symm ?_
  rintro _ _ ⟨rfl, rfl⟩
  refine J_st (.int 1 :: []) rfl ?_
  refine J_ws (wTo Z s y ++ arrB Z y n b) (by simp only [List.append_assoc, List.append_nil, List.nil_append]) ?_
  refine J_ifeq 16 C iJ0_charAt_5068e_4 rfl (fun h4 => absurd h4 (by decide)) (fun h4 => ?_)
  refine J_aload_n C iJ0_charAt_5068e_7 rfl rfl ?_
  refine J_get (.ref y) 0 C iJ0_charAt_5068e_8 gf_J0_9 rfl rfl ?_
  refine J_iload_n C iJ0_charAt_5068e_11 rfl rfl ?_
  refine J_cSb (As := [.ref y, .int (nI j)]) (st := []) (rc2 := 0) (rs2 := 0) (w0 := (arrB Z y n b)) C iJ0_charAt_5068e_12 lm_J0_495 yc_J1_charAt_3b067 ys_J1_charAt_3b067 (c_J1_charAt_3b067 (j := j) hj hn hb hc) (wTo Z s y) [] (by simp only [List.append_assoc, List.append_nil, List.nil_append]) rfl ⟨Nat.le_of_ble_eq_true rfl, Nat.le_of_ble_eq_true rfl⟩ (Nat.le_of_ble_eq_true rfl) (Nat.zero_add _).symm (Nat.zero_add _).symm ?_
  rintro _ _ ⟨rfl, rfl⟩
  refine J_st (.int (nI c) :: []) rfl ?_
  refine J_ws (wTo Z s y ++ arrB Z y n b) (by simp only [List.append_assoc, List.append_nil, List.nil_append]) ?_
  exact J_nret C E iJ0_charAt_5068e_15 (chr_ok c hc).2 ⟨rfl, rfl⟩

