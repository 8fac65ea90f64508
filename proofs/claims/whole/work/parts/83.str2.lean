set_option maxRecDepth 100000 in
set_option maxHeartbeats 4000000 in
theorem c_X10_isSmall {Z : GZ} {l : Launch} {b : Int32}  : Ct Z l yX10_isSmall cX10_isSmall 1 (some .boolean) (rmK 0) [.int b] [] (fun v w => v = some (.int (b2i (isLet b))) ∧ w = []) := by
  refine Ct.ofJ (own := RX10) (nm := "isSmall") (lv0 := [(0, .int b)]) (by decide) rfl rfl (Nat.le_of_ble_eq_true rfl) rfl (fun X hXl C E => ?_)
  subst hXl
  refine J_iload_n C iX10_isSmall_0 rfl rfl ?_
  refine J_bipush 97 C iX10_isSmall_1 rfl ?_
  refine J_icmplt 16 C iX10_isSmall_3 rfl (fun h3 => ?_) (fun h3 => ?_)
  · refine J_iconst 0 C iX10_isSmall_16 rfl ?_
    exact J_zret C E iX10_isSmall_17 rfl ⟨by simp [isLet, h3, b2i], rfl⟩
  · refine J_iload_n C iX10_isSmall_6 rfl rfl ?_
    refine J_bipush 122 C iX10_isSmall_7 rfl ?_
    refine J_icmpgt 16 C iX10_isSmall_9 rfl (fun h9 => ?_) (fun h9 => ?_)
    · refine J_iconst 0 C iX10_isSmall_16 rfl ?_
      exact J_zret C E iX10_isSmall_17 rfl ⟨by simp [isLet, h3, h9, b2i], rfl⟩
    · refine J_iconst 1 C iX10_isSmall_12 rfl ?_
      refine J_goto 17 C iX10_isSmall_13 rfl ?_
      exact J_zret C E iX10_isSmall_17 rfl ⟨by simp [isLet, h3, h9, b2i], rfl⟩

set_option maxRecDepth 100000 in
set_option maxHeartbeats 4000000 in
theorem c_X10_isDigit {Z : GZ} {l : Launch} {b : Int32}  : Ct Z l yX10_isDigit cX10_isDigit 1 (some .boolean) (rmK 0) [.int b] [] (fun v w => v = some (.int (b2i (isDig b))) ∧ w = []) := by
  refine Ct.ofJ (own := RX10) (nm := "isDigit") (lv0 := [(0, .int b)]) (by decide) rfl rfl (Nat.le_of_ble_eq_true rfl) rfl (fun X hXl C E => ?_)
  subst hXl
  refine J_iload_n C iX10_isDigit_0 rfl rfl ?_
  refine J_bipush 48 C iX10_isDigit_1 rfl ?_
  refine J_icmplt 16 C iX10_isDigit_3 rfl (fun h3 => ?_) (fun h3 => ?_)
  · refine J_iconst 0 C iX10_isDigit_16 rfl ?_
    exact J_zret C E iX10_isDigit_17 rfl ⟨by simp [isDig, h3, b2i], rfl⟩
  · refine J_iload_n C iX10_isDigit_6 rfl rfl ?_
    refine J_bipush 57 C iX10_isDigit_7 rfl ?_
    refine J_icmpgt 16 C iX10_isDigit_9 rfl (fun h9 => ?_) (fun h9 => ?_)
    · refine J_iconst 0 C iX10_isDigit_16 rfl ?_
      exact J_zret C E iX10_isDigit_17 rfl ⟨by simp [isDig, h3, h9, b2i], rfl⟩
    · refine J_iconst 1 C iX10_isDigit_12 rfl ?_
      refine J_goto 17 C iX10_isDigit_13 rfl ?_
      exact J_zret C E iX10_isDigit_17 rfl ⟨by simp [isDig, h3, h9, b2i], rfl⟩

set_option maxRecDepth 100000 in
set_option maxHeartbeats 4000000 in
theorem c_X10_letter {Z : GZ} {l : Launch} {b : Int32}  : Ct Z l yX10_letter cX10_letter 1 (some .int) (rmK 1) [.int b] [] (fun v w => v = some (.int (ltM b)) ∧ w = []) := by
  refine Ct.ofJ (own := RX10) (nm := "letter") (lv0 := [(0, .int b)]) (by decide) rfl rfl (Nat.le_of_ble_eq_true rfl) rfl (fun X hXl C E => ?_)
  subst hXl
  refine J_iload_n C iX10_letter_0 rfl rfl ?_
  refine J_cSp (As := [.int b]) (st := []) C iX10_letter_1 lm_X10_223 yc_X10_isSmall ys_X10_isSmall (c_X10_isSmall (b := b)) rfl (rmK_le (by omega) (by decide)) (Nat.le_of_ble_eq_true rfl) ⟨rfl, rfl⟩ ?_
  rintro _ rfl
  refine J_st (.int (b2i (isLet b)) :: []) rfl ?_
  refine J_ifeqb 16 C iX10_letter_4 rfl (fun h4 => ?_) (fun h4 => ?_)
  · refine J_iload_n C iX10_letter_16 rfl rfl ?_
    refine J_bipush 48 C iX10_letter_17 rfl ?_
    refine J_isub C iX10_letter_19 ?_
    refine J_bipush 27 C iX10_letter_20 rfl ?_
    refine J_iadd C iX10_letter_22 ?_
    exact J_iret C E iX10_letter_23 ⟨by rw [ltM, if_neg (by rw [h4]; exact Bool.false_ne_true)], rfl⟩
  · refine J_iload_n C iX10_letter_7 rfl rfl ?_
    refine J_bipush 97 C iX10_letter_8 rfl ?_
    refine J_isub C iX10_letter_10 ?_
    refine J_iconst 1 C iX10_letter_11 rfl ?_
    refine J_iadd C iX10_letter_12 ?_
    refine J_goto 23 C iX10_letter_13 rfl ?_
    exact J_iret C E iX10_letter_23 ⟨by rw [ltM, if_pos h4], rfl⟩

set_option maxRecDepth 100000 in
set_option maxHeartbeats 4000000 in
theorem c_X10_nameOf {Z : GZ} {l : Launch} {i : Nat} (hi : i < 24)  : Ct Z l yX10_nameOf cX10_nameOf 4 (some .long) (rmK 5) [.ref (zsk Z i)] [] (fun v w => v = some (.long (kWd.getD i 0)) ∧ w = []) := by
  refine Ct.ofJ (own := RX10) (nm := "nameOf") (lv0 := [(0, .ref (zsk Z i))]) (by decide) rfl rfl (Nat.le_of_ble_eq_true rfl) rfl (fun X hXl C E => ?_)
  subst hXl
  refine J_lconst 0 C iX10_nameOf_0 rfl ?_
  refine J_lstore_n [(1, .long 0), (0, .ref (zsk Z i))] C iX10_nameOf_1 rfl (by decide) rfl ?_
  refine J_iconst 0 C iX10_nameOf_2 rfl ?_
  refine J_istore_n [(3, .int 0), (1, .long 0), (0, .ref (zsk Z i))] C iX10_nameOf_3 rfl (by decide) rfl ?_
  refine J_lvm [(1, .long 0), (3, .int 0), (0, .ref (zsk Z i))] rfl ?_
  refine J_for (fun k => [(1, .long (nmW i k)), (3, .int (nI k)), (0, .ref (zsk Z i))]) (fun k => []) (wLen.getD i 0) 0 (by omega) ?_ (fun k hk0 hk ih => ?_)
  · refine J_iload_n C iX10_nameOf_4 rfl rfl ?_
    refine J_aload_n C iX10_nameOf_5 rfl rfl ?_
    refine J_cVS (As := []) (st := .int (nI (wLen.getD i 0)) :: []) C iX10_nameOf_6 lm_X10_235 yc_J0_length_8abf5 yv_J0_length_8abf5 (c_J0_length_8abf5 (i := i) (by omega)) (by omega) rfl rfl (rmK_le (by omega) (by decide)) (Nat.le_of_ble_eq_true rfl) ⟨rfl, rfl⟩ ?_
    rintro _ rfl
    refine J_st (.int (nI (wLen.getD i 0)) :: .int (nI (wLen.getD i 0)) :: []) rfl ?_
    refine J_icmpge 34 C iX10_nameOf_9 rfl (fun h9 => ?_) (fun h9 => absurd (nI_le (Nat.le_refl _) (by have := wLen_le i hi; omega)) h9)
    refine J_lload_n C iX10_nameOf_34 rfl rfl ?_
    exact J_lret C E iX10_nameOf_35 ⟨by rw [nmW_ok i hi], rfl⟩
  · have h6 := wLen_le i hi
    refine J_iload_n C iX10_nameOf_4 rfl rfl ?_
    refine J_aload_n C iX10_nameOf_5 rfl rfl ?_
    refine J_cVS (As := []) (st := .int (nI k) :: []) C iX10_nameOf_6 lm_X10_235 yc_J0_length_8abf5 yv_J0_length_8abf5 (c_J0_length_8abf5 (i := i) (by omega)) (by omega) rfl rfl (rmK_le (by omega) (by decide)) (Nat.le_of_ble_eq_true rfl) ⟨rfl, rfl⟩ ?_
    rintro _ rfl
    refine J_st (.int (nI (wLen.getD i 0)) :: .int (nI k) :: []) rfl ?_
    refine J_icmpge 34 C iX10_nameOf_9 rfl (fun h9 => absurd h9 (nI_ge hk (by have := wLen_le i hi; omega))) (fun h9 => ?_)
    refine J_ldc2 37 C iX10_nameOf_12 (tsg_in (i := 1383) (by decide +kernel) rfl) ?_
    refine J_lload_n C iX10_nameOf_15 rfl rfl ?_
    refine J_lmul C iX10_nameOf_16 ?_
    refine J_aload_n C iX10_nameOf_17 rfl rfl ?_
    refine J_iload_n C iX10_nameOf_18 rfl rfl ?_
    refine J_cVS (As := [.int (nI k)]) (st := .long (37 * (nmW i k)) :: []) C iX10_nameOf_19 lm_X10_242 yc_J0_charAt_5068e yv_J0_charAt_5068e (c_J0_charAt_5068e (i := i) (j := k) (by omega) hk) (by omega) rfl rfl (rmK_le (by omega) (by decide)) (Nat.le_of_ble_eq_true rfl) ⟨rfl, rfl⟩ ?_
    rintro _ rfl
    refine J_st (.int (chW i k) :: .long (37 * (nmW i k)) :: []) rfl ?_
    refine J_cSp (As := [.int (chW i k)]) (st := .long (37 * (nmW i k)) :: []) C iX10_nameOf_22 lm_X10_246 yc_X10_letter ys_X10_letter (c_X10_letter (b := chW i k)) rfl (rmK_le (by omega) (by decide)) (Nat.le_of_ble_eq_true rfl) ⟨rfl, rfl⟩ ?_
    rintro _ rfl
    refine J_st (.int (ltM (chW i k)) :: .long (37 * (nmW i k)) :: []) rfl ?_
    refine J_i2l C iX10_nameOf_25 ?_
    refine J_ladd C iX10_nameOf_26 ?_
    refine J_lstore_n [(1, .long ((37 * (nmW i k)) + ((ltM (chW i k)).toInt64))), (3, .int (nI k)), (0, .ref (zsk Z i))] C iX10_nameOf_27 rfl (by decide) rfl ?_
    refine J_iinc ((nI k) + 1) [(3, .int ((nI k) + 1)), (1, .long ((37 * (nmW i k)) + ((ltM (chW i k)).toInt64))), (0, .ref (zsk Z i))] C iX10_nameOf_28 rfl rfl (by decide) rfl ?_
    rw [show (nI k) + 1 = nI (k + 1) from nI_add _ _]
    refine J_goto 4 C iX10_nameOf_31 rfl ?_
    refine J_lvm [(1, .long ((37 * (nmW i k)) + ((ltM (chW i k)).toInt64))), (3, .int (nI (k + 1))), (0, .ref (zsk Z i))] rfl ?_
    exact ih

