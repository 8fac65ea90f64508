set_option maxRecDepth 100000 in
set_option maxHeartbeats 4000000 in
theorem c_X4_truth {Z : GZ} {l : Launch} {b : Bool}  : Ct Z l yX4_truth cX4_truth 1 (some .int) (rmK 0) [.int (b2i b)] [] (fun v w => v = some (.int (b2i b)) ∧ w = []) := by
  refine Ct.ofJ (own := RX4) (nm := "truth") (lv0 := [(0, .int (b2i b))]) (by decide) rfl rfl (Nat.le_of_ble_eq_true rfl) rfl (fun X hXl C E => ?_)
  subst hXl
  refine J_iload_n C iX4_truth_0 rfl rfl ?_
  refine J_ifeqb 8 C iX4_truth_1 rfl (fun h1 => ?_) (fun h1 => ?_)
  · refine J_iconst 0 C iX4_truth_8 rfl ?_
    exact J_iret C E iX4_truth_9 ⟨by rw [h1]; rfl, rfl⟩
  · refine J_iconst 1 C iX4_truth_4 rfl ?_
    refine J_goto 9 C iX4_truth_5 rfl ?_
    exact J_iret C E iX4_truth_9 ⟨by rw [h1]; rfl, rfl⟩

set_option maxRecDepth 100000 in
set_option maxHeartbeats 4000000 in
theorem c_X4_sumOf {Z : GZ} {l : Launch} {op l_ r_ : Int32}  : Ct Z l yX4_sumOf cX4_sumOf 3 (some .int) (rmK 1) [.int op, .int l_, .int r_] [] (fun v w => v = some (.int (smX op l_ r_)) ∧ w = []) := by
  refine Ct.ofJ (own := RX4) (nm := "sumOf") (lv0 := [(0, .int op), (1, .int l_), (2, .int r_)]) (by decide) rfl rfl (Nat.le_of_ble_eq_true rfl) rfl (fun X hXl C E => ?_)
  subst hXl
  refine J_iload_n C iX4_sumOf_0 rfl rfl ?_
  by_cases hv1_10 : op = 10
  · refine J_tabIn 36 C iX4_sumOf_1 (by rw [hv1_10]; decide) (by rw [hv1_10]; decide) (by rw [hv1_10]; rfl) rfl ?_
    refine J_iload_n C iX4_sumOf_36 rfl rfl ?_
    refine J_iload_n C iX4_sumOf_37 rfl rfl ?_
    refine J_iadd C iX4_sumOf_38 ?_
    exact J_iret C E iX4_sumOf_39 ⟨by rw [smX, if_pos hv1_10], rfl⟩
  by_cases hv1_11 : op = 11
  · refine J_tabIn 40 C iX4_sumOf_1 (by rw [hv1_11]; decide) (by rw [hv1_11]; decide) (by rw [hv1_11]; rfl) rfl ?_
    refine J_iload_n C iX4_sumOf_40 rfl rfl ?_
    refine J_iload_n C iX4_sumOf_41 rfl rfl ?_
    refine J_isub C iX4_sumOf_42 ?_
    exact J_iret C E iX4_sumOf_43 ⟨by rw [smX, if_neg hv1_10, if_pos hv1_11], rfl⟩
  by_cases hv1_12 : op = 12
  · refine J_tabIn 44 C iX4_sumOf_1 (by rw [hv1_12]; decide) (by rw [hv1_12]; decide) (by rw [hv1_12]; rfl) rfl ?_
    refine J_iload_n C iX4_sumOf_44 rfl rfl ?_
    refine J_iload_n C iX4_sumOf_45 rfl rfl ?_
    refine J_imul C iX4_sumOf_46 ?_
    exact J_iret C E iX4_sumOf_47 ⟨by rw [smX, if_neg hv1_10, if_neg hv1_11, if_pos hv1_12], rfl⟩
  by_cases hv1_13 : op = 13
  · refine J_tabIn 48 C iX4_sumOf_1 (by rw [hv1_13]; decide) (by rw [hv1_13]; decide) (by rw [hv1_13]; rfl) rfl ?_
    refine J_iload_n C iX4_sumOf_48 rfl rfl ?_
    refine J_ifne 56 C iX4_sumOf_49 rfl (fun h49 => ?_) (fun h49 => ?_)
    · refine J_iload_n C iX4_sumOf_56 rfl rfl ?_
      refine J_iload_n C iX4_sumOf_57 rfl rfl ?_
      refine J_idiv C iX4_sumOf_58 h49 ?_
      exact J_iret C E iX4_sumOf_59 ⟨by rw [smX, if_neg hv1_10, if_neg hv1_11, if_neg hv1_12, if_pos hv1_13, if_neg h49], rfl⟩
    · refine J_iconst 0 C iX4_sumOf_52 rfl ?_
      refine J_goto 59 C iX4_sumOf_53 rfl ?_
      exact J_iret C E iX4_sumOf_59 ⟨by rw [smX, if_neg hv1_10, if_neg hv1_11, if_neg hv1_12, if_pos hv1_13, if_pos h49], rfl⟩
  by_cases hv1_14 : op = 14
  · refine J_tabIn 60 C iX4_sumOf_1 (by rw [hv1_14]; decide) (by rw [hv1_14]; decide) (by rw [hv1_14]; rfl) rfl ?_
    refine J_iload_n C iX4_sumOf_60 rfl rfl ?_
    refine J_iload_n C iX4_sumOf_61 rfl rfl ?_
    refine J_imin C iX4_sumOf_62 (tsg_in (i := 667) (by decide +kernel) rfl) ma_imin_1 ma_i ma_imin_2 (by decide) (Nat.le_of_ble_eq_true rfl) ?_
    exact J_iret C E iX4_sumOf_65 ⟨by rw [smX, if_neg hv1_10, if_neg hv1_11, if_neg hv1_12, if_neg hv1_13, if_pos hv1_14], rfl⟩
  refine J_tabOut 66 C iX4_sumOf_1 (by have := i32_ne (c := 10) (n := 10) hv1_10 (by decide); have := i32_ne (c := 11) (n := 11) hv1_11 (by decide); have := i32_ne (c := 12) (n := 12) hv1_12 (by decide); have := i32_ne (c := 13) (n := 13) hv1_13 (by decide); have := i32_ne (c := 14) (n := 14) hv1_14 (by decide); omega) rfl ?_
  refine J_iload_n C iX4_sumOf_66 rfl rfl ?_
  refine J_iload_n C iX4_sumOf_67 rfl rfl ?_
  refine J_imax C iX4_sumOf_68 (tsg_in (i := 638) (by decide +kernel) rfl) ma_imax_1 ma_i ma_imax_2 (by decide) (Nat.le_of_ble_eq_true rfl) ?_
  exact J_iret C E iX4_sumOf_71 ⟨by rw [smX, if_neg hv1_10, if_neg hv1_11, if_neg hv1_12, if_neg hv1_13, if_neg hv1_14], rfl⟩

set_option maxRecDepth 100000 in
set_option maxHeartbeats 4000000 in
theorem c_X4_testOf {Z : GZ} {l : Launch} {op l_ r_ : Int32}  : Ct Z l yX4_testOf cX4_testOf 3 (some .boolean) (rmK 1) [.int op, .int l_, .int r_] [] (fun v w => v = some (.int (b2i (tsX op l_ r_))) ∧ w = []) := by
  refine Ct.ofJ (own := RX4) (nm := "testOf") (lv0 := [(0, .int op), (1, .int l_), (2, .int r_)]) (by decide) rfl rfl (Nat.le_of_ble_eq_true rfl) rfl (fun X hXl C E => ?_)
  subst hXl
  refine J_iload_n C iX4_testOf_0 rfl rfl ?_
  by_cases hv1_16 : op = 16
  · refine J_tabIn 40 C iX4_testOf_1 (by rw [hv1_16]; decide) (by rw [hv1_16]; decide) (by rw [hv1_16]; rfl) rfl ?_
    refine J_iload_n C iX4_testOf_40 rfl rfl ?_
    refine J_iload_n C iX4_testOf_41 rfl rfl ?_
    refine J_icmpge 49 C iX4_testOf_42 rfl (fun h42 => ?_) (fun h42 => ?_)
    · refine J_iconst 0 C iX4_testOf_49 rfl ?_
      exact J_zret C E iX4_testOf_50 rfl ⟨by rw [tsX, if_pos hv1_16]; simp [h42, b2i, b2i], rfl⟩
    · refine J_iconst 1 C iX4_testOf_45 rfl ?_
      refine J_goto 50 C iX4_testOf_46 rfl ?_
      exact J_zret C E iX4_testOf_50 rfl ⟨by rw [tsX, if_pos hv1_16]; simp [h42, b2i, b2i], rfl⟩
  by_cases hv1_17 : op = 17
  · refine J_tabIn 51 C iX4_testOf_1 (by rw [hv1_17]; decide) (by rw [hv1_17]; decide) (by rw [hv1_17]; rfl) rfl ?_
    refine J_iload_n C iX4_testOf_51 rfl rfl ?_
    refine J_iload_n C iX4_testOf_52 rfl rfl ?_
    refine J_icmple 60 C iX4_testOf_53 rfl (fun h53 => ?_) (fun h53 => ?_)
    · refine J_iconst 0 C iX4_testOf_60 rfl ?_
      exact J_zret C E iX4_testOf_61 rfl ⟨by rw [tsX, if_neg hv1_16, if_pos hv1_17]; simp [h53, b2i, b2i], rfl⟩
    · refine J_iconst 1 C iX4_testOf_56 rfl ?_
      refine J_goto 61 C iX4_testOf_57 rfl ?_
      exact J_zret C E iX4_testOf_61 rfl ⟨by rw [tsX, if_neg hv1_16, if_pos hv1_17]; simp [h53, b2i, b2i], rfl⟩
  by_cases hv1_18 : op = 18
  · refine J_tabIn 62 C iX4_testOf_1 (by rw [hv1_18]; decide) (by rw [hv1_18]; decide) (by rw [hv1_18]; rfl) rfl ?_
    refine J_iload_n C iX4_testOf_62 rfl rfl ?_
    refine J_iload_n C iX4_testOf_63 rfl rfl ?_
    refine J_icmpne 71 C iX4_testOf_64 rfl (fun h64 => ?_) (fun h64 => ?_)
    · refine J_iconst 0 C iX4_testOf_71 rfl ?_
      exact J_zret C E iX4_testOf_72 rfl ⟨by rw [tsX, if_neg hv1_16, if_neg hv1_17, if_pos hv1_18]; simp [h64, b2i, b2i], rfl⟩
    · refine J_iconst 1 C iX4_testOf_67 rfl ?_
      refine J_goto 72 C iX4_testOf_68 rfl ?_
      exact J_zret C E iX4_testOf_72 rfl ⟨by rw [tsX, if_neg hv1_16, if_neg hv1_17, if_pos hv1_18]; simp [h64, b2i, b2i], rfl⟩
  by_cases hv1_19 : op = 19
  · refine J_tabIn 73 C iX4_testOf_1 (by rw [hv1_19]; decide) (by rw [hv1_19]; decide) (by rw [hv1_19]; rfl) rfl ?_
    refine J_iload_n C iX4_testOf_73 rfl rfl ?_
    refine J_iload_n C iX4_testOf_74 rfl rfl ?_
    refine J_icmpgt 82 C iX4_testOf_75 rfl (fun h75 => ?_) (fun h75 => ?_)
    · refine J_iconst 0 C iX4_testOf_82 rfl ?_
      exact J_zret C E iX4_testOf_83 rfl ⟨by rw [tsX, if_neg hv1_16, if_neg hv1_17, if_neg hv1_18, if_pos hv1_19]; simp [h75, b2i, b2i], rfl⟩
    · refine J_iconst 1 C iX4_testOf_78 rfl ?_
      refine J_goto 83 C iX4_testOf_79 rfl ?_
      exact J_zret C E iX4_testOf_83 rfl ⟨by rw [tsX, if_neg hv1_16, if_neg hv1_17, if_neg hv1_18, if_pos hv1_19]; simp [h75, b2i, b2i], rfl⟩
  by_cases hv1_20 : op = 20
  · refine J_tabIn 84 C iX4_testOf_1 (by rw [hv1_20]; decide) (by rw [hv1_20]; decide) (by rw [hv1_20]; rfl) rfl ?_
    refine J_iload_n C iX4_testOf_84 rfl rfl ?_
    refine J_iload_n C iX4_testOf_85 rfl rfl ?_
    refine J_icmplt 93 C iX4_testOf_86 rfl (fun h86 => ?_) (fun h86 => ?_)
    · refine J_iconst 0 C iX4_testOf_93 rfl ?_
      exact J_zret C E iX4_testOf_94 rfl ⟨by rw [tsX, if_neg hv1_16, if_neg hv1_17, if_neg hv1_18, if_neg hv1_19, if_pos hv1_20]; simp [h86, b2i, b2i], rfl⟩
    · refine J_iconst 1 C iX4_testOf_89 rfl ?_
      refine J_goto 94 C iX4_testOf_90 rfl ?_
      exact J_zret C E iX4_testOf_94 rfl ⟨by rw [tsX, if_neg hv1_16, if_neg hv1_17, if_neg hv1_18, if_neg hv1_19, if_pos hv1_20]; simp [h86, b2i, b2i], rfl⟩
  by_cases hv1_21 : op = 21
  · refine J_tabIn 95 C iX4_testOf_1 (by rw [hv1_21]; decide) (by rw [hv1_21]; decide) (by rw [hv1_21]; rfl) rfl ?_
    refine J_iload_n C iX4_testOf_95 rfl rfl ?_
    refine J_ifeq 107 C iX4_testOf_96 rfl (fun h96 => ?_) (fun h96 => ?_)
    · refine J_iconst 0 C iX4_testOf_107 rfl ?_
      exact J_zret C E iX4_testOf_108 rfl ⟨by rw [tsX, if_neg hv1_16, if_neg hv1_17, if_neg hv1_18, if_neg hv1_19, if_neg hv1_20, if_pos hv1_21]; simp [h96, b2i, b2i], rfl⟩
    · refine J_iload_n C iX4_testOf_99 rfl rfl ?_
      refine J_ifeq 107 C iX4_testOf_100 rfl (fun h100 => ?_) (fun h100 => ?_)
      · refine J_iconst 0 C iX4_testOf_107 rfl ?_
        exact J_zret C E iX4_testOf_108 rfl ⟨by rw [tsX, if_neg hv1_16, if_neg hv1_17, if_neg hv1_18, if_neg hv1_19, if_neg hv1_20, if_pos hv1_21]; simp [h96, h100, b2i, b2i], rfl⟩
      · refine J_iconst 1 C iX4_testOf_103 rfl ?_
        refine J_goto 108 C iX4_testOf_104 rfl ?_
        exact J_zret C E iX4_testOf_108 rfl ⟨by rw [tsX, if_neg hv1_16, if_neg hv1_17, if_neg hv1_18, if_neg hv1_19, if_neg hv1_20, if_pos hv1_21]; simp [h96, h100, b2i, b2i], rfl⟩
  refine J_tabOut 109 C iX4_testOf_1 (by have := i32_ne (c := 16) (n := 16) hv1_16 (by decide); have := i32_ne (c := 17) (n := 17) hv1_17 (by decide); have := i32_ne (c := 18) (n := 18) hv1_18 (by decide); have := i32_ne (c := 19) (n := 19) hv1_19 (by decide); have := i32_ne (c := 20) (n := 20) hv1_20 (by decide); have := i32_ne (c := 21) (n := 21) hv1_21 (by decide); omega) rfl ?_
  refine J_iload_n C iX4_testOf_109 rfl rfl ?_
  refine J_ifne 117 C iX4_testOf_110 rfl (fun h110 => ?_) (fun h110 => ?_)
  · refine J_iconst 1 C iX4_testOf_117 rfl ?_
    refine J_goto 122 C iX4_testOf_118 rfl ?_
    exact J_zret C E iX4_testOf_122 rfl ⟨by rw [tsX, if_neg hv1_16, if_neg hv1_17, if_neg hv1_18, if_neg hv1_19, if_neg hv1_20, if_neg hv1_21]; simp [h110, b2i, b2i], rfl⟩
  · refine J_iload_n C iX4_testOf_113 rfl rfl ?_
    refine J_ifeq 121 C iX4_testOf_114 rfl (fun h114 => ?_) (fun h114 => ?_)
    · refine J_iconst 0 C iX4_testOf_121 rfl ?_
      exact J_zret C E iX4_testOf_122 rfl ⟨by rw [tsX, if_neg hv1_16, if_neg hv1_17, if_neg hv1_18, if_neg hv1_19, if_neg hv1_20, if_neg hv1_21]; simp [h110, h114, b2i, b2i], rfl⟩
    · refine J_iconst 1 C iX4_testOf_117 rfl ?_
      refine J_goto 122 C iX4_testOf_118 rfl ?_
      exact J_zret C E iX4_testOf_122 rfl ⟨by rw [tsX, if_neg hv1_16, if_neg hv1_17, if_neg hv1_18, if_neg hv1_19, if_neg hv1_20, if_neg hv1_21]; simp [h110, h114, b2i, b2i], rfl⟩

