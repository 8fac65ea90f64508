set_option maxRecDepth 100000 in
set_option maxHeartbeats 4000000 in
theorem c_L_below {Z : GZ} {l : Launch} {x : Int32} {N : Nat} (h0 : 0 < N) (h1 : N < 2 ^ 31) : Ct Z l yL_below cL_below 2 (some .int) (rmK 0) [.int x, .int (nI N)] [] (fun v w => v = some (.int (nI (belN x N))) ∧ w = []) := by
  refine Ct.ofJ (own := RL) (nm := "below") (lv0 := [(0, .int x), (1, .int (nI N))]) (by decide) rfl rfl (Nat.le_of_ble_eq_true rfl) rfl (fun X hXl C E => ?_)
  subst hXl
  refine J_room (rc2 := 0) (rs2 := 0) (Nat.le_refl _) (Nat.le_refl _) ?_
  refine J_iload_n C iL_below_0 rfl rfl ?_
  refine J_ldcI 2147483647 C iL_below_1 (tsg_in (i := 821) (by decide +kernel) rfl) ?_
  refine J_iand C iL_below_3 ?_
  rw [bel_and]
  refine J_iload_n C iL_below_4 rfl rfl ?_
  refine J_irem C iL_below_5 (nI_ne0 h0 h1) ?_
  rw [show ((nI (x.toBitVec.toNat % 2147483648)) - (nI (x.toBitVec.toNat % 2147483648)) / (nI N) * (nI N) : Int32) = nI ((x.toBitVec.toNat % 2147483648) % N) from pk_rem (a := (x.toBitVec.toNat % 2147483648)) (d := N) (by omega) (by omega) (by omega)]
  exact J_iret C E iL_below_6 ⟨rfl, rfl⟩

set_option maxRecDepth 100000 in
set_option maxHeartbeats 4000000 in
theorem c_L_cell {Z : GZ} {l : Launch} {k : Nat} (hk : k < 100) (hL : zms Z 4 ≤ 260) : Ct Z l yL_cell cL_cell 2 (some .int) (rmK 0) [.ref (zms Z 3), .int (nI k)] [] (fun v w => v = some (.int (ceN Z k)) ∧ w = []) := by
  refine Ct.ofJ (own := RL) (nm := "cell") (lv0 := [(0, .ref (zms Z 3)), (1, .int (nI k))]) (by decide) rfl rfl (Nat.le_of_ble_eq_true rfl) rfl (fun X hXl C E => ?_)
  subst hXl
  refine J_room (rc2 := 0) (rs2 := 0) (Nat.le_refl _) (Nat.le_refl _) ?_
  refine J_iload_n C iL_cell_0 rfl rfl ?_
  refine J_aload_n C iL_cell_1 rfl rfl ?_
  refine J_slen C iL_cell_2 ?_
  by_cases hkL : k < zms Z 4
  · refine J_icmpge 12 C iL_cell_3 rfl (fun h3 => absurd h3 (nI_ge (a := k) (b := (zms Z 4)) (by omega) (by omega))) (fun h3 => ?_)
    refine J_aload_n C iL_cell_6 rfl rfl ?_
    refine J_iload_n C iL_cell_7 rfl rfl ?_
    refine J_sld C iL_cell_8 (vp_in_nI (n := k) (by omega) (by omega)) ?_
    rw [nI_clamp (n := k) (by omega)]
    refine J_goto 18 C iL_cell_9 rfl ?_
    exact J_iret C E iL_cell_18 ⟨by rw [ceN, if_pos hkL], rfl⟩
  · refine J_icmpge 12 C iL_cell_3 rfl (fun h3 => ?_) (fun h3 => absurd (nI_le (a := (zms Z 4)) (b := k) (by omega) (by omega)) h3)
    refine J_ldcI 790386105 C iL_cell_12 (tsg_in (i := 825) (by decide +kernel) rfl) ?_
    refine J_iload_n C iL_cell_14 rfl rfl ?_
    refine J_iconst 3 C iL_cell_15 rfl ?_
    refine J_iadd C iL_cell_16 ?_
    rw [show (nI k) + 3 = nI (k + 3) from nI_add _ _]
    refine J_imul C iL_cell_17 ?_
    exact J_iret C E iL_cell_18 ⟨by rw [ceN, if_neg hkL], rfl⟩

set_option maxRecDepth 100000 in
set_option maxHeartbeats 4000000 in
theorem c_X10_init {Z : GZ} {l : Launch} {a : Nat} : Ct Z l yX10_init cX10_init 1 none (rmK 1) [.ref a] (wNd Z a 0 0 0 .null .null) (fun v w => v = none ∧ w = (wNd Z a 0 0 0 .null .null)) := by
  refine Ct.ofJ (own := RX10) (nm := "<init>") (lv0 := [(0, .ref a)]) (by decide) rfl rfl (Nat.le_of_ble_eq_true rfl) rfl (fun X hXl C E => ?_)
  subst hXl
  refine J_room (rc2 := 0) (rs2 := 0) (Nat.le_refl _) (Nat.le_refl _) ?_
  refine J_aload_n C iX10_init_0 rfl rfl ?_
  refine J_objInit C iX10_init_1 (tsg_in (i := 1355) (by decide +kernel) rfl) oi_1 oi_2 (Nat.le_of_ble_eq_true rfl) (Nat.le_of_ble_eq_true rfl) ?_
  exact J_vret C E iX10_init_4 ⟨rfl, rfl⟩

set_option maxRecDepth 100000 in
set_option maxHeartbeats 4000000 in
theorem c_L_sum {Z : GZ} {l : Launch} {n : Nat} (hn : 0 < n) (hn2 : n ≤ 12) : ∀ (f : Nat) {x : Int32} {d : Nat} (hd : NdS f d) (hd9 : d ≤ 3), Ct Z l yL_sum cL_sum 5 (some (.object "ShadowRegistryLaw$Tree")) (rmS f) [.int x, .int (nI n), .int (nI d)] [] (MkT Z n f (false, x, d)) := by
  intro f
  induction f with
  | zero => exact fun hd _ => absurd hd.1 (by omega)
  | succ fu ih =>
    intro x d hd hd9
    refine Ct.ofJ (own := RL) (nm := "sum") (lv0 := [(0, .int x), (1, .int (nI n)), (2, .int (nI d))]) (by decide) rfl rfl (Nat.le_of_ble_eq_true rfl) rfl (fun X hXl C E => ?_)
    subst hXl
    refine J_room (rc2 := 1 + 2 * cN fu) (rs2 := 5 + 2 * sN fu) (Nat.le_refl _) (Nat.le_refl _) ?_
    have hks := kS_lt x d
    have hus := uS_in x
    have hv19 := belN_lt (x := x) (n := 19) (by decide)
    refine J_room (rc2 := 1 + (0 + 2 * cN fu)) (rs2 := 5 + (0 + 2 * sN fu)) (by omega) (by omega) ?_
    refine J_new (ci := 9) [.int 0, .int 0, .int 0, .null, .null] tyX10 C iL_sum_0 rfl lay_X10 tyX10_ok (tsg_in (i := 1348) (by decide +kernel) rfl) (tsg_in (i := 778) (by decide +kernel) rfl) (tsg_in (i := 56) (by decide +kernel) rfl) df_X10 (fun n1 => ?_)
    refine J_ws (wNd Z n1 0 0 0 .null .null) rfl ?_
    refine J_dup C iL_sum_3 rfl ?_
    refine J_cINb (As := []) (st := .ref n1 :: []) (rc2 := 0 + 2 * cN fu) (rs2 := 0 + 2 * sN fu) (w0 := (wNd Z n1 0 0 0 .null .null)) C iL_sum_4 ln_L_34 yc_X10_init yi_X10_init c_X10_init [] [] (by simp only [List.append_assoc, List.append_nil, List.nil_append]) rfl (rmS_k (by decide) (by decide)) (Nat.le_of_ble_eq_true rfl) (Nat.zero_add _).symm (Nat.zero_add _).symm ?_
    rintro _ _ ⟨rfl, rfl⟩
    refine J_st (.ref n1 :: []) rfl ?_
    refine J_ws (wNd Z n1 0 0 0 .null .null) (by simp only [List.append_assoc, List.append_nil, List.nil_append]) ?_
    refine J_astore_n [(3, .ref n1), (0, .int x), (1, .int (nI n)), (2, .int (nI d))] C iL_sum_7 rfl (by decide) rfl ?_
    refine J_iload_n C iL_sum_8 rfl rfl ?_
    refine J_bipush 19 C iL_sum_9 rfl ?_
    refine J_cSb (As := [.int x, .int 19]) (st := []) (rc2 := 0 + 2 * cN fu) (rs2 := 0 + 2 * sN fu) (w0 := []) C iL_sum_11 lm_L_35 yc_L_below ys_L_below (c_L_below (x := x) (N := 19) (by omega) (by omega)) [] (wNd Z n1 0 0 0 .null .null) (by simp only [List.append_assoc, List.append_nil, List.nil_append]) rfl (rmS_k (by decide) (by decide)) (Nat.le_of_ble_eq_true rfl) (Nat.zero_add _).symm (Nat.zero_add _).symm ?_
    rintro _ _ ⟨rfl, rfl⟩
    refine J_st (.int (nI (belN x 19)) :: []) rfl ?_
    refine J_ws (wNd Z n1 0 0 0 .null .null) (by simp only [List.append_assoc, List.append_nil, List.nil_append]) ?_
    refine J_istore [(4, .int (nI (belN x 19))), (3, .ref n1), (0, .int x), (1, .int (nI n)), (2, .int (nI d))] C iL_sum_14 (by decide) rfl ?_
    refine J_alt (ι := Unit) (P := fun _ => True) (0 + 2 * cN fu) (0 + 2 * sN fu) 63 (fun _ => [(4, .int (nI (belN x 19))), (3, .ref n1), (0, .int x), (1, .int (nI n)), (2, .int (nI d))]) (fun _ => .int (nI (kS x d)) :: .ref n1 :: []) (fun _ => (wNd Z n1 0 0 0 .null .null)) (fun _ _ => ?_) (fun hk63 => ?_)
    · refine J_put (wNd Z n1 (nI (kS x d)) 0 0 .null .null) 0 C iL_sum_63 pf_L_41 rfl rfl rfl (Nat.le_of_ble_eq_true rfl) rfl ?_
      refine J_alt (ι := Unit) (P := fun _ => True) (0 + 2 * cN fu) (0 + 2 * sN fu) 109 (fun _ => [(4, .int (nI (belN x 19))), (3, .ref n1), (0, .int x), (1, .int (nI n)), (2, .int (nI d))]) (fun _ => .int (nI (nS x d n)) :: .ref n1 :: []) (fun _ => (wNd Z n1 (nI (kS x d)) 0 0 .null .null)) (fun _ _ => ?_) (fun hk109 => ?_)
      · refine J_put (wNd Z n1 (nI (kS x d)) (nI (nS x d n)) 0 .null .null) 0 C iL_sum_109 pf_L_46 rfl rfl rfl (Nat.le_of_ble_eq_true rfl) rfl ?_
        refine J_aload_n C iL_sum_112 rfl rfl ?_
        refine J_get (.int (nI (kS x d))) 0 C iL_sum_113 gf_L_41 rfl rfl ?_
        refine J_bipush 6 C iL_sum_116 rfl ?_
        by_cases hk6 : kS x d < 6
        · refine J_icmplt 137 C iL_sum_118 rfl (fun h118 => ?_) (fun h118 => absurd (nI_lt (a := (kS x d)) (b := 6) (by omega) (by omega)) h118)
          refine J_aload_n C iL_sum_137 rfl rfl ?_
          refine J_get (.int (nI (kS x d))) 0 C iL_sum_138 gf_L_41 rfl rfl ?_
          refine J_bipush 7 C iL_sum_141 rfl ?_
          refine J_icmplt 162 C iL_sum_143 rfl (fun h143 => ?_) (fun h143 => absurd (nI_lt (a := (kS x d)) (b := 7) (by omega) (by omega)) h143)
          refine J_aload_n C iL_sum_162 rfl rfl ?_
          exact J_aret C E iL_sum_163 (Or.inl ⟨_, rfl⟩) (MkT.mk (q := (false, x, d)) (L1 := []) (L2 := []) (oa := none) (ob := none) rfl rfl (fun e => absurd e (hasA_no (Or.inl hk6))) (fun e => absurd e (hasC_no (Or.inl (show kS x d < 7 by omega)))))
        · refine J_icmplt 137 C iL_sum_118 rfl (fun h118 => absurd h118 (nI_nlt (a := (kS x d)) (b := 6) (by omega) (by omega))) (fun h118 => ?_)
          refine J_aload_n C iL_sum_121 rfl rfl ?_
          refine J_iload_n C iL_sum_122 rfl rfl ?_
          refine J_iconst 3 C iL_sum_123 rfl ?_
          refine J_imul C iL_sum_124 ?_
          refine J_iconst 1 C iL_sum_125 rfl ?_
          refine J_iadd C iL_sum_126 ?_
          refine J_iload_n C iL_sum_127 rfl rfl ?_
          refine J_iload_n C iL_sum_128 rfl rfl ?_
          refine J_iconst 1 C iL_sum_129 rfl ?_
          refine J_iadd C iL_sum_130 ?_
          rw [show (nI d) + 1 = nI (d + 1) from nI_add _ _]
          refine J_room (rc2 := (cN fu) + (0 + 1 * cN fu)) (rs2 := (sN fu) + (0 + 1 * sN fu)) (by omega) (by omega) ?_
          refine J_cSb (As := [.int ((x * 3) + 1), .int (nI n), .int (nI (d + 1))]) (st := .ref n1 :: []) (rc2 := 0 + 1 * cN fu) (rs2 := 0 + 1 * sN fu) (w0 := []) C iL_sum_131 lm_L_49 yc_L_sum ys_L_sum (ih (x := (x * 3) + 1) (d := (d + 1)) (nds_a hd hk6).1 (nds_a hd hk6).2) (wNd Z n1 (nI (kS x d)) (nI (nS x d n)) 0 .null .null) [] (by simp only [List.append_assoc, List.append_nil, List.nil_append]) rfl (rmS_le (by omega) (by decide)) (Nat.le_of_ble_eq_true rfl) rfl rfl ?_
          rintro _ _ ⟨L1, a1, rfl, rfl, hi1⟩
          refine J_st (.ref a1 :: .ref n1 :: []) rfl ?_
          refine J_ws (wNd Z n1 (nI (kS x d)) (nI (nS x d n)) 0 .null .null ++ wPl Z L1) (by simp only [List.append_assoc, List.append_nil, List.nil_append]) ?_
          refine J_put (wNd Z n1 (nI (kS x d)) (nI (nS x d n)) 0 (.ref a1) .null ++ wPl Z L1) 0 C iL_sum_134 pf_L_53 rfl rfl rfl (Nat.le_of_ble_eq_true rfl) rfl ?_
          refine J_aload_n C iL_sum_137 rfl rfl ?_
          refine J_get (.int (nI (kS x d))) 0 C iL_sum_138 gf_L_41 rfl rfl ?_
          refine J_bipush 7 C iL_sum_141 rfl ?_
          by_cases hk7 : kS x d < 7
          · refine J_icmplt 162 C iL_sum_143 rfl (fun h143 => ?_) (fun h143 => absurd (nI_lt (a := (kS x d)) (b := 7) (by omega) (by omega)) h143)
            refine J_aload_n C iL_sum_162 rfl rfl ?_
            exact J_aret C E iL_sum_163 (Or.inl ⟨_, rfl⟩) (MkT.mk (q := (false, x, d)) (L1 := L1) (L2 := []) (oa := (some a1)) (ob := none) rfl (List.append_nil _).symm (fun _ => ⟨_, rfl, hi1⟩) (fun e => absurd e (hasC_no (Or.inl (show kS x d < 7 by omega)))))
          · refine J_icmplt 162 C iL_sum_143 rfl (fun h143 => absurd h143 (nI_nlt (a := (kS x d)) (b := 7) (by omega) (by omega))) (fun h143 => ?_)
            refine J_aload_n C iL_sum_146 rfl rfl ?_
            refine J_iload_n C iL_sum_147 rfl rfl ?_
            refine J_iconst 5 C iL_sum_148 rfl ?_
            refine J_imul C iL_sum_149 ?_
            refine J_iconst 2 C iL_sum_150 rfl ?_
            refine J_iadd C iL_sum_151 ?_
            refine J_iload_n C iL_sum_152 rfl rfl ?_
            refine J_iload_n C iL_sum_153 rfl rfl ?_
            refine J_iconst 1 C iL_sum_154 rfl ?_
            refine J_iadd C iL_sum_155 ?_
            rw [show (nI d) + 1 = nI (d + 1) from nI_add _ _]
            refine J_room (rc2 := (cN fu) + (0 + 0 * cN fu)) (rs2 := (sN fu) + (0 + 0 * sN fu)) (by omega) (by omega) ?_
            refine J_cSb (As := [.int ((x * 5) + 2), .int (nI n), .int (nI (d + 1))]) (st := .ref n1 :: []) (rc2 := 0 + 0 * cN fu) (rs2 := 0 + 0 * sN fu) (w0 := []) C iL_sum_156 lm_L_49 yc_L_sum ys_L_sum (ih (x := (x * 5) + 2) (d := (d + 1)) (nds_a hd hk6).1 (nds_a hd hk6).2) (wNd Z n1 (nI (kS x d)) (nI (nS x d n)) 0 (.ref a1) .null ++ wPl Z L1) [] (by simp only [List.append_assoc, List.append_nil, List.nil_append]) rfl (rmS_le (by omega) (by decide)) (Nat.le_of_ble_eq_true rfl) rfl rfl ?_
            rintro _ _ ⟨L2, a2, rfl, rfl, hi2⟩
            refine J_st (.ref a2 :: .ref n1 :: []) rfl ?_
            refine J_ws ((wNd Z n1 (nI (kS x d)) (nI (nS x d n)) 0 (.ref a1) .null ++ wPl Z L1) ++ wPl Z L2) (by simp only [List.append_assoc, List.append_nil, List.nil_append]) ?_
            refine J_put ((wNd Z n1 (nI (kS x d)) (nI (nS x d n)) 0 (.ref a1) (.ref a2) ++ wPl Z L1) ++ wPl Z L2) 0 C iL_sum_159 pf_L_57 rfl rfl rfl (Nat.le_of_ble_eq_true rfl) rfl ?_
            refine J_aload_n C iL_sum_162 rfl rfl ?_
            exact J_aret C E iL_sum_163 (Or.inl ⟨_, rfl⟩) (MkT.mk (q := (false, x, d)) (L1 := L1) (L2 := L2) (oa := (some a1)) (ob := (some a2)) rfl rfl (fun _ => ⟨_, rfl, hi1⟩) (fun _ => ⟨_, rfl, hi2⟩))
      · refine J_aload_n C iL_sum_66 rfl rfl ?_
        refine J_aload_n C iL_sum_67 rfl rfl ?_
        refine J_get (.int (nI (kS x d))) 0 C iL_sum_68 gf_L_41 rfl rfl ?_
        by_cases hk0 : kS x d = 0
        · refine J_ifne 102 C iL_sum_71 rfl (fun h71 => absurd (show nI (kS x d) = 0 from congrArg nI hk0) h71) (fun h71 => ?_)
          refine J_iload_n C iL_sum_74 rfl rfl ?_
          refine J_iconst 3 C iL_sum_75 rfl ?_
          refine J_ishr C iL_sum_76 ?_
          refine J_iload_n C iL_sum_77 rfl rfl ?_
          refine J_bipush 7 C iL_sum_78 rfl ?_
          refine J_ishr C iL_sum_80 ?_
          refine J_bipush 6 C iL_sum_81 rfl ?_
          refine J_cSb (As := [.int (x >>> (7 &&& 31)), .int 6]) (st := .int (x >>> (3 &&& 31)) :: .ref n1 :: []) (rc2 := 0 + 2 * cN fu) (rs2 := 0 + 2 * sN fu) (w0 := []) C iL_sum_83 lm_L_35 yc_L_below ys_L_below (c_L_below (x := x >>> (7 &&& 31)) (N := 6) (by omega) (by omega)) [] (wNd Z n1 (nI (kS x d)) 0 0 .null .null) (by simp only [List.append_assoc, List.append_nil, List.nil_append]) rfl (rmS_k (by decide) (by decide)) (Nat.le_of_ble_eq_true rfl) (Nat.zero_add _).symm (Nat.zero_add _).symm ?_
          rintro _ _ ⟨rfl, rfl⟩
          refine J_st (.int (nI (belN (x >>> (7 &&& 31)) 6)) :: .int (x >>> (3 &&& 31)) :: .ref n1 :: []) rfl ?_
          refine J_ws (wNd Z n1 (nI (kS x d)) 0 0 .null .null) (by simp only [List.append_assoc, List.append_nil, List.nil_append]) ?_
          by_cases hu6 : belN (x >>> (7 &&& 31)) 6 = 0
          · refine J_ifne 94 C iL_sum_86 rfl (fun h86 => absurd (show nI (belN (x >>> (7 &&& 31)) 6) = 0 from congrArg nI hu6) h86) (fun h86 => ?_)
            refine J_ldcI 1000000 C iL_sum_89 (tsg_in (i := 1378) (by decide +kernel) rfl) ?_
            refine J_goto 96 C iL_sum_91 rfl ?_
            refine J_cSb (As := [.int (x >>> (3 &&& 31)), .int 1000000]) (st := .ref n1 :: []) (rc2 := 0 + 2 * cN fu) (rs2 := 0 + 2 * sN fu) (w0 := []) C iL_sum_96 lm_L_35 yc_L_below ys_L_below (c_L_below (x := x >>> (3 &&& 31)) (N := 1000000) (by omega) (by omega)) [] (wNd Z n1 (nI (kS x d)) 0 0 .null .null) (by simp only [List.append_assoc, List.append_nil, List.nil_append]) rfl (rmS_k (by decide) (by decide)) (Nat.le_of_ble_eq_true rfl) (Nat.zero_add _).symm (Nat.zero_add _).symm ?_
            rintro _ _ ⟨rfl, rfl⟩
            refine J_st (.int (nI (belN (x >>> (3 &&& 31)) 1000000)) :: .ref n1 :: []) rfl ?_
            refine J_ws (wNd Z n1 (nI (kS x d)) 0 0 .null .null) (by simp only [List.append_assoc, List.append_nil, List.nil_append]) ?_
            refine J_goto 109 C iL_sum_99 rfl ?_
            refine J_st (.int (nI (nS x d n)) :: .ref n1 :: []) (congrArg (fun z => (.int z :: .ref n1 :: [] : List Value)) (show (nI (belN (x >>> (3 &&& 31)) 1000000) : Int32) = nI (nS x d n) from congrArg nI (by rw [nS, if_pos hk0, uS, if_pos hu6]))) ?_
            refine J_lvm [(4, .int (nI (belN x 19))), (3, .ref n1), (0, .int x), (1, .int (nI n)), (2, .int (nI d))] rfl ?_
            exact hk109 () trivial
          · refine J_ifne 94 C iL_sum_86 rfl (fun h86 => ?_) (fun h86 => absurd h86 (fun e => hu6 ((nI_eq (a := belN (x >>> (7 &&& 31)) 6) (b := 0) (by have := belN_lt (x := x >>> (7 &&& 31)) (n := 6) (by decide); omega) (by decide)).mp e)))
            refine J_bipush 19 C iL_sum_94 rfl ?_
            refine J_cSb (As := [.int (x >>> (3 &&& 31)), .int 19]) (st := .ref n1 :: []) (rc2 := 0 + 2 * cN fu) (rs2 := 0 + 2 * sN fu) (w0 := []) C iL_sum_96 lm_L_35 yc_L_below ys_L_below (c_L_below (x := x >>> (3 &&& 31)) (N := 19) (by omega) (by omega)) [] (wNd Z n1 (nI (kS x d)) 0 0 .null .null) (by simp only [List.append_assoc, List.append_nil, List.nil_append]) rfl (rmS_k (by decide) (by decide)) (Nat.le_of_ble_eq_true rfl) (Nat.zero_add _).symm (Nat.zero_add _).symm ?_
            rintro _ _ ⟨rfl, rfl⟩
            refine J_st (.int (nI (belN (x >>> (3 &&& 31)) 19)) :: .ref n1 :: []) rfl ?_
            refine J_ws (wNd Z n1 (nI (kS x d)) 0 0 .null .null) (by simp only [List.append_assoc, List.append_nil, List.nil_append]) ?_
            refine J_goto 109 C iL_sum_99 rfl ?_
            refine J_st (.int (nI (nS x d n)) :: .ref n1 :: []) (congrArg (fun z => (.int z :: .ref n1 :: [] : List Value)) (show (nI (belN (x >>> (3 &&& 31)) 19) : Int32) = nI (nS x d n) from congrArg nI (by rw [nS, if_pos hk0, uS, if_neg hu6]))) ?_
            refine J_lvm [(4, .int (nI (belN x 19))), (3, .ref n1), (0, .int x), (1, .int (nI n)), (2, .int (nI d))] rfl ?_
            exact hk109 () trivial
        · refine J_ifne 102 C iL_sum_71 rfl (fun h71 => ?_) (fun h71 => absurd h71 (fun e => hk0 ((nI_eq (a := kS x d) (b := 0) (by omega) (by decide)).mp e)))
          refine J_iload_n C iL_sum_102 rfl rfl ?_
          refine J_iconst 4 C iL_sum_103 rfl ?_
          refine J_ishr C iL_sum_104 ?_
          refine J_iload_n C iL_sum_105 rfl rfl ?_
          refine J_cSb (As := [.int (x >>> (4 &&& 31)), .int (nI n)]) (st := .ref n1 :: []) (rc2 := 0 + 2 * cN fu) (rs2 := 0 + 2 * sN fu) (w0 := []) C iL_sum_106 lm_L_35 yc_L_below ys_L_below (c_L_below (x := x >>> (4 &&& 31)) (N := n) (by omega) (by omega)) [] (wNd Z n1 (nI (kS x d)) 0 0 .null .null) (by simp only [List.append_assoc, List.append_nil, List.nil_append]) rfl (rmS_k (by decide) (by decide)) (Nat.le_of_ble_eq_true rfl) (Nat.zero_add _).symm (Nat.zero_add _).symm ?_
          rintro _ _ ⟨rfl, rfl⟩
          refine J_st (.int (nI (belN (x >>> (4 &&& 31)) n)) :: .ref n1 :: []) rfl ?_
          refine J_ws (wNd Z n1 (nI (kS x d)) 0 0 .null .null) (by simp only [List.append_assoc, List.append_nil, List.nil_append]) ?_
          refine J_st (.int (nI (nS x d n)) :: .ref n1 :: []) (congrArg (fun z => (.int z :: .ref n1 :: [] : List Value)) (show (nI (belN (x >>> (4 &&& 31)) n) : Int32) = nI (nS x d n) from congrArg nI (by rw [nS, if_neg hk0]))) ?_
          refine J_lvm [(4, .int (nI (belN x 19))), (3, .ref n1), (0, .int x), (1, .int (nI n)), (2, .int (nI d))] rfl ?_
          exact hk109 () trivial
    · refine J_aload_n C iL_sum_16 rfl rfl ?_
      refine J_iload C iL_sum_17 rfl ?_
      refine J_iconst 4 C iL_sum_19 rfl ?_
      by_cases hv4 : belN x 19 < 4
      · refine J_icmplt 35 C iL_sum_20 rfl (fun h20 => ?_) (fun h20 => absurd (nI_lt (a := (belN x 19)) (b := 4) (by omega) (by omega)) h20)
        refine J_iconst 0 C iL_sum_35 rfl ?_
        refine J_goto 63 C iL_sum_36 rfl ?_
        refine J_st (.int (nI (kS x d)) :: .ref n1 :: []) (congrArg (fun z => (.int z :: .ref n1 :: [] : List Value)) (show (0 : Int32) = nI (kS x d) from congrArg nI (show 0 = kS x d by rw [kS, if_pos hv4]))) ?_
        refine J_lvm [(4, .int (nI (belN x 19))), (3, .ref n1), (0, .int x), (1, .int (nI n)), (2, .int (nI d))] rfl ?_
        exact hk63 () trivial
      · refine J_icmplt 35 C iL_sum_20 rfl (fun h20 => absurd h20 (nI_nlt (a := (belN x 19)) (b := 4) (by omega) (by omega))) (fun h20 => ?_)
        refine J_iload_n C iL_sum_23 rfl rfl ?_
        refine J_iconst 1 C iL_sum_24 rfl ?_
        by_cases hd1 : 1 < d
        · refine J_icmple 39 C iL_sum_25 rfl (fun h25 => absurd h25 (nI_ge (a := 1) (b := d) (by omega) (by omega))) (fun h25 => ?_)
          refine J_iload C iL_sum_28 rfl ?_
          refine J_bipush 11 C iL_sum_30 rfl ?_
          by_cases hv11 : 11 < belN x 19
          · refine J_icmple 39 C iL_sum_32 rfl (fun h32 => absurd h32 (nI_ge (a := 11) (b := (belN x 19)) (by omega) (by omega))) (fun h32 => ?_)
            refine J_iconst 0 C iL_sum_35 rfl ?_
            refine J_goto 63 C iL_sum_36 rfl ?_
            refine J_st (.int (nI (kS x d)) :: .ref n1 :: []) (congrArg (fun z => (.int z :: .ref n1 :: [] : List Value)) (show (0 : Int32) = nI (kS x d) from congrArg nI (show 0 = kS x d by rw [kS, if_neg hv4, if_pos ⟨hd1, hv11⟩]))) ?_
            refine J_lvm [(4, .int (nI (belN x 19))), (3, .ref n1), (0, .int x), (1, .int (nI n)), (2, .int (nI d))] rfl ?_
            exact hk63 () trivial
          · refine J_icmple 39 C iL_sum_32 rfl (fun h32 => ?_) (fun h32 => absurd (nI_le (a := (belN x 19)) (b := 11) (by omega) (by omega)) h32)
            refine J_iload C iL_sum_39 rfl ?_
            refine J_bipush 12 C iL_sum_41 rfl ?_
            by_cases hv12 : belN x 19 < 12
            · refine J_icmpge 55 C iL_sum_43 rfl (fun h43 => absurd h43 (nI_ge (a := (belN x 19)) (b := 12) (by omega) (by omega))) (fun h43 => ?_)
              refine J_iconst 1 C iL_sum_46 rfl ?_
              refine J_iload C iL_sum_47 rfl ?_
              refine J_iconst 5 C iL_sum_49 rfl ?_
              refine J_irem C iL_sum_50 (by decide) ?_
              rw [show ((nI (belN x 19)) - (nI (belN x 19)) / 5 * 5 : Int32) = nI ((belN x 19) % 5) from pk_rem (a := (belN x 19)) (d := 5) (by omega) (by omega) (by omega)]
              refine J_iadd C iL_sum_51 ?_
              rw [show 1 + (nI ((belN x 19) % 5)) = nI (1 + ((belN x 19) % 5)) from nI_add _ _]
              refine J_goto 63 C iL_sum_52 rfl ?_
              refine J_st (.int (nI (kS x d)) :: .ref n1 :: []) (congrArg (fun z => (.int z :: .ref n1 :: [] : List Value)) (show (nI (1 + ((belN x 19) % 5)) : Int32) = nI (kS x d) from congrArg nI (show 1 + belN x 19 % 5 = kS x d by rw [kS, if_neg hv4, if_neg (fun z => hv11 z.2), if_pos hv12]))) ?_
              refine J_lvm [(4, .int (nI (belN x 19))), (3, .ref n1), (0, .int x), (1, .int (nI n)), (2, .int (nI d))] rfl ?_
              exact hk63 () trivial
            · refine J_icmpge 55 C iL_sum_43 rfl (fun h43 => ?_) (fun h43 => absurd (nI_le (a := 12) (b := (belN x 19)) (by omega) (by omega)) h43)
              refine J_bipush 6 C iL_sum_55 rfl ?_
              refine J_iload C iL_sum_57 rfl ?_
              refine J_bipush 7 C iL_sum_59 rfl ?_
              refine J_irem C iL_sum_61 (by decide) ?_
              rw [show ((nI (belN x 19)) - (nI (belN x 19)) / 7 * 7 : Int32) = nI ((belN x 19) % 7) from pk_rem (a := (belN x 19)) (d := 7) (by omega) (by omega) (by omega)]
              refine J_iadd C iL_sum_62 ?_
              rw [show 6 + (nI ((belN x 19) % 7)) = nI (6 + ((belN x 19) % 7)) from nI_add _ _]
              refine J_st (.int (nI (kS x d)) :: .ref n1 :: []) (congrArg (fun z => (.int z :: .ref n1 :: [] : List Value)) (show (nI (6 + ((belN x 19) % 7)) : Int32) = nI (kS x d) from congrArg nI (show 6 + belN x 19 % 7 = kS x d by rw [kS, if_neg hv4, if_neg (fun z => hv11 z.2), if_neg hv12]))) ?_
              refine J_lvm [(4, .int (nI (belN x 19))), (3, .ref n1), (0, .int x), (1, .int (nI n)), (2, .int (nI d))] rfl ?_
              exact hk63 () trivial
        · refine J_icmple 39 C iL_sum_25 rfl (fun h25 => ?_) (fun h25 => absurd (nI_le (a := d) (b := 1) (by omega) (by omega)) h25)
          refine J_iload C iL_sum_39 rfl ?_
          refine J_bipush 12 C iL_sum_41 rfl ?_
          by_cases hv12 : belN x 19 < 12
          · refine J_icmpge 55 C iL_sum_43 rfl (fun h43 => absurd h43 (nI_ge (a := (belN x 19)) (b := 12) (by omega) (by omega))) (fun h43 => ?_)
            refine J_iconst 1 C iL_sum_46 rfl ?_
            refine J_iload C iL_sum_47 rfl ?_
            refine J_iconst 5 C iL_sum_49 rfl ?_
            refine J_irem C iL_sum_50 (by decide) ?_
            rw [show ((nI (belN x 19)) - (nI (belN x 19)) / 5 * 5 : Int32) = nI ((belN x 19) % 5) from pk_rem (a := (belN x 19)) (d := 5) (by omega) (by omega) (by omega)]
            refine J_iadd C iL_sum_51 ?_
            rw [show 1 + (nI ((belN x 19) % 5)) = nI (1 + ((belN x 19) % 5)) from nI_add _ _]
            refine J_goto 63 C iL_sum_52 rfl ?_
            refine J_st (.int (nI (kS x d)) :: .ref n1 :: []) (congrArg (fun z => (.int z :: .ref n1 :: [] : List Value)) (show (nI (1 + ((belN x 19) % 5)) : Int32) = nI (kS x d) from congrArg nI (show 1 + belN x 19 % 5 = kS x d by rw [kS, if_neg hv4, if_neg (fun z => hd1 z.1), if_pos hv12]))) ?_
            refine J_lvm [(4, .int (nI (belN x 19))), (3, .ref n1), (0, .int x), (1, .int (nI n)), (2, .int (nI d))] rfl ?_
            exact hk63 () trivial
          · refine J_icmpge 55 C iL_sum_43 rfl (fun h43 => ?_) (fun h43 => absurd (nI_le (a := 12) (b := (belN x 19)) (by omega) (by omega)) h43)
            refine J_bipush 6 C iL_sum_55 rfl ?_
            refine J_iload C iL_sum_57 rfl ?_
            refine J_bipush 7 C iL_sum_59 rfl ?_
            refine J_irem C iL_sum_61 (by decide) ?_
            rw [show ((nI (belN x 19)) - (nI (belN x 19)) / 7 * 7 : Int32) = nI ((belN x 19) % 7) from pk_rem (a := (belN x 19)) (d := 7) (by omega) (by omega) (by omega)]
            refine J_iadd C iL_sum_62 ?_
            rw [show 6 + (nI ((belN x 19) % 7)) = nI (6 + ((belN x 19) % 7)) from nI_add _ _]
            refine J_st (.int (nI (kS x d)) :: .ref n1 :: []) (congrArg (fun z => (.int z :: .ref n1 :: [] : List Value)) (show (nI (6 + ((belN x 19) % 7)) : Int32) = nI (kS x d) from congrArg nI (show 6 + belN x 19 % 7 = kS x d by rw [kS, if_neg hv4, if_neg (fun z => hd1 z.1), if_neg hv12]))) ?_
            refine J_lvm [(4, .int (nI (belN x 19))), (3, .ref n1), (0, .int x), (1, .int (nI n)), (2, .int (nI d))] rfl ?_
            exact hk63 () trivial

set_option maxRecDepth 100000 in
set_option maxHeartbeats 4000000 in
theorem c_L_test {Z : GZ} {l : Launch} {n : Nat} (hn : 0 < n) (hn2 : n ≤ 12) : ∀ (f : Nat) {x : Int32} {d : Nat} (hd : NdT f d), Ct Z l yL_test cL_test 5 (some (.object "ShadowRegistryLaw$Tree")) (rmS f) [.int x, .int (nI n), .int (nI d)] [] (MkT Z n f (true, x, d)) := by
  intro f
  induction f with
  | zero => exact fun hd => by rcases hd with h | h | h <;> omega
  | succ fu ih =>
    intro x d hd
    refine Ct.ofJ (own := RL) (nm := "test") (lv0 := [(0, .int x), (1, .int (nI n)), (2, .int (nI d))]) (by decide) rfl rfl (Nat.le_of_ble_eq_true rfl) rfl (fun X hXl C E => ?_)
    subst hXl
    refine J_room (rc2 := 1 + 2 * cN fu) (rs2 := 5 + 2 * sN fu) (Nat.le_refl _) (Nat.le_refl _) ?_
    have hkt := kT_in x d
    have hw14 := belN_lt (x := x >>> (1 &&& 31)) (n := 14) (by decide)
    rw [show belN (x >>> (1 &&& 31)) 14 = wT x from rfl] at hw14
    have hd2 := ndt_le hd
    refine J_room (rc2 := 1 + (0 + 2 * cN fu)) (rs2 := 5 + (0 + 2 * sN fu)) (by omega) (by omega) ?_
    refine J_new (ci := 9) [.int 0, .int 0, .int 0, .null, .null] tyX10 C iL_test_0 rfl lay_X10 tyX10_ok (tsg_in (i := 1348) (by decide +kernel) rfl) (tsg_in (i := 778) (by decide +kernel) rfl) (tsg_in (i := 56) (by decide +kernel) rfl) df_X10 (fun n1 => ?_)
    refine J_ws (wNd Z n1 0 0 0 .null .null) rfl ?_
    refine J_dup C iL_test_3 rfl ?_
    refine J_cINb (As := []) (st := .ref n1 :: []) (rc2 := 0 + 2 * cN fu) (rs2 := 0 + 2 * sN fu) (w0 := (wNd Z n1 0 0 0 .null .null)) C iL_test_4 ln_L_34 yc_X10_init yi_X10_init c_X10_init [] [] (by simp only [List.append_assoc, List.append_nil, List.nil_append]) rfl (rmS_k (by decide) (by decide)) (Nat.le_of_ble_eq_true rfl) (Nat.zero_add _).symm (Nat.zero_add _).symm ?_
    rintro _ _ ⟨rfl, rfl⟩
    refine J_st (.ref n1 :: []) rfl ?_
    refine J_ws (wNd Z n1 0 0 0 .null .null) (by simp only [List.append_assoc, List.append_nil, List.nil_append]) ?_
    refine J_astore_n [(3, .ref n1), (0, .int x), (1, .int (nI n)), (2, .int (nI d))] C iL_test_7 rfl (by decide) rfl ?_
    refine J_iload_n C iL_test_8 rfl rfl ?_
    refine J_iconst 1 C iL_test_9 rfl ?_
    refine J_ishr C iL_test_10 ?_
    refine J_bipush 14 C iL_test_11 rfl ?_
    refine J_cSb (As := [.int (x >>> (1 &&& 31)), .int 14]) (st := []) (rc2 := 0 + 2 * cN fu) (rs2 := 0 + 2 * sN fu) (w0 := []) C iL_test_13 lm_L_35 yc_L_below ys_L_below (c_L_below (x := x >>> (1 &&& 31)) (N := 14) (by omega) (by omega)) [] (wNd Z n1 0 0 0 .null .null) (by simp only [List.append_assoc, List.append_nil, List.nil_append]) rfl (rmS_k (by decide) (by decide)) (Nat.le_of_ble_eq_true rfl) (Nat.zero_add _).symm (Nat.zero_add _).symm ?_
    rintro _ _ ⟨rfl, rfl⟩
    refine J_st (.int (nI (belN (x >>> (1 &&& 31)) 14)) :: []) rfl ?_
    refine J_ws (wNd Z n1 0 0 0 .null .null) (by simp only [List.append_assoc, List.append_nil, List.nil_append]) ?_
    rw [show belN (x >>> (1 &&& 31)) 14 = wT x from rfl]
    refine J_istore [(4, .int (nI (wT x))), (3, .ref n1), (0, .int x), (1, .int (nI n)), (2, .int (nI d))] C iL_test_16 (by decide) rfl ?_
    refine J_alt (ι := Unit) (P := fun _ => True) (0 + 2 * cN fu) (0 + 2 * sN fu) 71 (fun _ => [(4, .int (nI (wT x))), (3, .ref n1), (0, .int x), (1, .int (nI n)), (2, .int (nI d))]) (fun _ => .int (nI (kT x d)) :: .ref n1 :: []) (fun _ => (wNd Z n1 0 0 0 .null .null)) (fun _ _ => ?_) (fun hk71 => ?_)
    · refine J_put (wNd Z n1 (nI (kT x d)) 0 0 .null .null) 0 C iL_test_71 pf_L_41 rfl rfl rfl (Nat.le_of_ble_eq_true rfl) rfl ?_
      refine J_aload_n C iL_test_74 rfl rfl ?_
      refine J_iload_n C iL_test_75 rfl rfl ?_
      refine J_iconst 4 C iL_test_76 rfl ?_
      refine J_ishr C iL_test_77 ?_
      refine J_iload_n C iL_test_78 rfl rfl ?_
      refine J_cSb (As := [.int (x >>> (4 &&& 31)), .int (nI n)]) (st := .ref n1 :: []) (rc2 := 0 + 2 * cN fu) (rs2 := 0 + 2 * sN fu) (w0 := []) C iL_test_79 lm_L_35 yc_L_below ys_L_below (c_L_below (x := x >>> (4 &&& 31)) (N := n) (by omega) (by omega)) [] (wNd Z n1 (nI (kT x d)) 0 0 .null .null) (by simp only [List.append_assoc, List.append_nil, List.nil_append]) rfl (rmS_k (by decide) (by decide)) (Nat.le_of_ble_eq_true rfl) (Nat.zero_add _).symm (Nat.zero_add _).symm ?_
      rintro _ _ ⟨rfl, rfl⟩
      refine J_st (.int (nI (belN (x >>> (4 &&& 31)) n)) :: .ref n1 :: []) rfl ?_
      refine J_ws (wNd Z n1 (nI (kT x d)) 0 0 .null .null) (by simp only [List.append_assoc, List.append_nil, List.nil_append]) ?_
      refine J_put (wNd Z n1 (nI (kT x d)) (nI (belN (x >>> (4 &&& 31)) n)) 0 .null .null) 0 C iL_test_82 pf_L_46 rfl rfl rfl (Nat.le_of_ble_eq_true rfl) rfl ?_
      refine J_aload_n C iL_test_85 rfl rfl ?_
      refine J_iload_n C iL_test_86 rfl rfl ?_
      refine J_bipush 6 C iL_test_87 rfl ?_
      refine J_ishr C iL_test_89 ?_
      refine J_iload_n C iL_test_90 rfl rfl ?_
      refine J_cSb (As := [.int (x >>> (6 &&& 31)), .int (nI n)]) (st := .ref n1 :: []) (rc2 := 0 + 2 * cN fu) (rs2 := 0 + 2 * sN fu) (w0 := []) C iL_test_91 lm_L_35 yc_L_below ys_L_below (c_L_below (x := x >>> (6 &&& 31)) (N := n) (by omega) (by omega)) [] (wNd Z n1 (nI (kT x d)) (nI (belN (x >>> (4 &&& 31)) n)) 0 .null .null) (by simp only [List.append_assoc, List.append_nil, List.nil_append]) rfl (rmS_k (by decide) (by decide)) (Nat.le_of_ble_eq_true rfl) (Nat.zero_add _).symm (Nat.zero_add _).symm ?_
      rintro _ _ ⟨rfl, rfl⟩
      refine J_st (.int (nI (belN (x >>> (6 &&& 31)) n)) :: .ref n1 :: []) rfl ?_
      refine J_ws (wNd Z n1 (nI (kT x d)) (nI (belN (x >>> (4 &&& 31)) n)) 0 .null .null) (by simp only [List.append_assoc, List.append_nil, List.nil_append]) ?_
      refine J_put (wNd Z n1 (nI (kT x d)) (nI (belN (x >>> (4 &&& 31)) n)) (nI (belN (x >>> (6 &&& 31)) n)) .null .null) 0 C iL_test_94 pf_L_60 rfl rfl rfl (Nat.le_of_ble_eq_true rfl) rfl ?_
      refine J_aload_n C iL_test_97 rfl rfl ?_
      refine J_get (.int (nI (kT x d))) 0 C iL_test_98 gf_L_41 rfl rfl ?_
      refine J_bipush 25 C iL_test_101 rfl ?_
      by_cases hk25 : kT x d < 25
      · refine J_icmpge 142 C iL_test_103 rfl (fun h103 => absurd h103 (nI_ge (a := (kT x d)) (b := 25) (by omega) (by omega))) (fun h103 => ?_)
        refine J_aload_n C iL_test_106 rfl rfl ?_
        refine J_iload_n C iL_test_107 rfl rfl ?_
        refine J_iconst 3 C iL_test_108 rfl ?_
        refine J_imul C iL_test_109 ?_
        refine J_bipush 7 C iL_test_110 rfl ?_
        refine J_iadd C iL_test_112 ?_
        refine J_iload_n C iL_test_113 rfl rfl ?_
        refine J_iload_n C iL_test_114 rfl rfl ?_
        refine J_iconst 1 C iL_test_115 rfl ?_
        refine J_iadd C iL_test_116 ?_
        rw [show (nI d) + 1 = nI (d + 1) from nI_add _ _]
        refine J_room (rc2 := (cN fu) + (0 + 1 * cN fu)) (rs2 := (sN fu) + (0 + 1 * sN fu)) (by omega) (by omega) ?_
        refine J_cSb (As := [.int ((x * 3) + 7), .int (nI n), .int (nI (d + 1))]) (st := .ref n1 :: []) (rc2 := 0 + 1 * cN fu) (rs2 := 0 + 1 * sN fu) (w0 := []) C iL_test_117 lm_L_49 yc_L_sum ys_L_sum (c_L_sum hn hn2 fu (x := (x * 3) + 7) (d := (d + 1)) (ndt_s hd).1 (ndt_s hd).2) (wNd Z n1 (nI (kT x d)) (nI (belN (x >>> (4 &&& 31)) n)) (nI (belN (x >>> (6 &&& 31)) n)) .null .null) [] (by simp only [List.append_assoc, List.append_nil, List.nil_append]) rfl (rmS_le (by omega) (by decide)) (Nat.le_of_ble_eq_true rfl) rfl rfl ?_
        rintro _ _ ⟨L1, a1, rfl, rfl, hi1⟩
        refine J_st (.ref a1 :: .ref n1 :: []) rfl ?_
        refine J_ws (wNd Z n1 (nI (kT x d)) (nI (belN (x >>> (4 &&& 31)) n)) (nI (belN (x >>> (6 &&& 31)) n)) .null .null ++ wPl Z L1) (by simp only [List.append_assoc, List.append_nil, List.nil_append]) ?_
        refine J_put (wNd Z n1 (nI (kT x d)) (nI (belN (x >>> (4 &&& 31)) n)) (nI (belN (x >>> (6 &&& 31)) n)) (.ref a1) .null ++ wPl Z L1) 0 C iL_test_120 pf_L_53 rfl rfl rfl (Nat.le_of_ble_eq_true rfl) rfl ?_
        refine J_aload_n C iL_test_123 rfl rfl ?_
        refine J_iload_n C iL_test_124 rfl rfl ?_
        refine J_iconst 5 C iL_test_125 rfl ?_
        refine J_imul C iL_test_126 ?_
        refine J_iconst 1 C iL_test_127 rfl ?_
        refine J_iadd C iL_test_128 ?_
        refine J_iload_n C iL_test_129 rfl rfl ?_
        refine J_iload_n C iL_test_130 rfl rfl ?_
        refine J_iconst 1 C iL_test_131 rfl ?_
        refine J_iadd C iL_test_132 ?_
        rw [show (nI d) + 1 = nI (d + 1) from nI_add _ _]
        refine J_room (rc2 := (cN fu) + (0 + 0 * cN fu)) (rs2 := (sN fu) + (0 + 0 * sN fu)) (by omega) (by omega) ?_
        refine J_cSb (As := [.int ((x * 5) + 1), .int (nI n), .int (nI (d + 1))]) (st := .ref n1 :: []) (rc2 := 0 + 0 * cN fu) (rs2 := 0 + 0 * sN fu) (w0 := []) C iL_test_133 lm_L_49 yc_L_sum ys_L_sum (c_L_sum hn hn2 fu (x := (x * 5) + 1) (d := (d + 1)) (ndt_s hd).1 (ndt_s hd).2) (wNd Z n1 (nI (kT x d)) (nI (belN (x >>> (4 &&& 31)) n)) (nI (belN (x >>> (6 &&& 31)) n)) (.ref a1) .null ++ wPl Z L1) [] (by simp only [List.append_assoc, List.append_nil, List.nil_append]) rfl (rmS_le (by omega) (by decide)) (Nat.le_of_ble_eq_true rfl) rfl rfl ?_
        rintro _ _ ⟨L2, a2, rfl, rfl, hi2⟩
        refine J_st (.ref a2 :: .ref n1 :: []) rfl ?_
        refine J_ws ((wNd Z n1 (nI (kT x d)) (nI (belN (x >>> (4 &&& 31)) n)) (nI (belN (x >>> (6 &&& 31)) n)) (.ref a1) .null ++ wPl Z L1) ++ wPl Z L2) (by simp only [List.append_assoc, List.append_nil, List.nil_append]) ?_
        refine J_put ((wNd Z n1 (nI (kT x d)) (nI (belN (x >>> (4 &&& 31)) n)) (nI (belN (x >>> (6 &&& 31)) n)) (.ref a1) (.ref a2) ++ wPl Z L1) ++ wPl Z L2) 0 C iL_test_136 pf_L_57 rfl rfl rfl (Nat.le_of_ble_eq_true rfl) rfl ?_
        refine J_goto 193 C iL_test_139 rfl ?_
        refine J_aload_n C iL_test_193 rfl rfl ?_
        exact J_aret C E iL_test_194 (Or.inl ⟨_, rfl⟩) (MkT.mk (q := (true, x, d)) (L1 := L1) (L2 := L2) (oa := (some a1)) (ob := (some a2)) rfl rfl (fun _ => ⟨_, rfl, by rw [kdA, if_pos rfl, if_pos hk25]; exact hi1⟩) (fun _ => ⟨_, rfl, by rw [kdB, if_pos rfl, if_pos hk25]; exact hi2⟩))
      · refine J_icmpge 142 C iL_test_103 rfl (fun h103 => ?_) (fun h103 => absurd (nI_le (a := 25) (b := (kT x d)) (by omega) (by omega)) h103)
        refine J_aload_n C iL_test_142 rfl rfl ?_
        refine J_get (.int (nI (kT x d))) 0 C iL_test_143 gf_L_41 rfl rfl ?_
        refine J_bipush 28 C iL_test_146 rfl ?_
        by_cases hk28 : kT x d ≤ 28
        · refine J_icmple 193 C iL_test_148 rfl (fun h148 => ?_) (fun h148 => absurd (nI_le (a := (kT x d)) (b := 28) (by omega) (by omega)) h148)
          refine J_aload_n C iL_test_193 rfl rfl ?_
          exact J_aret C E iL_test_194 (Or.inl ⟨_, rfl⟩) (MkT.mk (q := (true, x, d)) (L1 := []) (L2 := []) (oa := none) (ob := none) rfl rfl (fun e => absurd e (hasA_no (Or.inr (show 25 ≤ kT x d ∧ kT x d < 29 by omega)))) (fun e => absurd e (hasC_no (Or.inr (show 25 ≤ kT x d ∧ kT x d < 30 by omega)))))
        · refine J_icmple 193 C iL_test_148 rfl (fun h148 => absurd h148 (nI_ge (a := 28) (b := (kT x d)) (by omega) (by omega))) (fun h148 => ?_)
          refine J_aload_n C iL_test_151 rfl rfl ?_
          refine J_iload_n C iL_test_152 rfl rfl ?_
          refine J_iconst 3 C iL_test_153 rfl ?_
          refine J_imul C iL_test_154 ?_
          refine J_iconst 5 C iL_test_155 rfl ?_
          refine J_iadd C iL_test_156 ?_
          refine J_iload_n C iL_test_157 rfl rfl ?_
          refine J_iload_n C iL_test_158 rfl rfl ?_
          refine J_iconst 1 C iL_test_159 rfl ?_
          refine J_iadd C iL_test_160 ?_
          rw [show (nI d) + 1 = nI (d + 1) from nI_add _ _]
          refine J_room (rc2 := (cN fu) + (0 + 1 * cN fu)) (rs2 := (sN fu) + (0 + 1 * sN fu)) (by omega) (by omega) ?_
          refine J_cSb (As := [.int ((x * 3) + 5), .int (nI n), .int (nI (d + 1))]) (st := .ref n1 :: []) (rc2 := 0 + 1 * cN fu) (rs2 := 0 + 1 * sN fu) (w0 := []) C iL_test_161 lm_L_63 yc_L_test ys_L_test (ih (x := (x * 3) + 5) (d := (d + 1)) (ndt_t hd hk28)) (wNd Z n1 (nI (kT x d)) (nI (belN (x >>> (4 &&& 31)) n)) (nI (belN (x >>> (6 &&& 31)) n)) .null .null) [] (by simp only [List.append_assoc, List.append_nil, List.nil_append]) rfl (rmS_le (by omega) (by decide)) (Nat.le_of_ble_eq_true rfl) rfl rfl ?_
          rintro _ _ ⟨L3, a3, rfl, rfl, hi3⟩
          refine J_st (.ref a3 :: .ref n1 :: []) rfl ?_
          refine J_ws (wNd Z n1 (nI (kT x d)) (nI (belN (x >>> (4 &&& 31)) n)) (nI (belN (x >>> (6 &&& 31)) n)) .null .null ++ wPl Z L3) (by simp only [List.append_assoc, List.append_nil, List.nil_append]) ?_
          refine J_put (wNd Z n1 (nI (kT x d)) (nI (belN (x >>> (4 &&& 31)) n)) (nI (belN (x >>> (6 &&& 31)) n)) (.ref a3) .null ++ wPl Z L3) 0 C iL_test_164 pf_L_53 rfl rfl rfl (Nat.le_of_ble_eq_true rfl) rfl ?_
          refine J_aload_n C iL_test_167 rfl rfl ?_
          refine J_get (.int (nI (kT x d))) 0 C iL_test_168 gf_L_41 rfl rfl ?_
          refine J_bipush 29 C iL_test_171 rfl ?_
          by_cases hk29 : kT x d ≤ 29
          · refine J_icmple 193 C iL_test_173 rfl (fun h173 => ?_) (fun h173 => absurd (nI_le (a := (kT x d)) (b := 29) (by omega) (by omega)) h173)
            refine J_aload_n C iL_test_193 rfl rfl ?_
            exact J_aret C E iL_test_194 (Or.inl ⟨_, rfl⟩) (MkT.mk (q := (true, x, d)) (L1 := L3) (L2 := []) (oa := (some a3)) (ob := none) rfl (List.append_nil _).symm (fun _ => ⟨_, rfl, by rw [kdA, if_pos rfl, if_neg hk25]; exact hi3⟩) (fun e => absurd e (hasC_no (Or.inr (show 25 ≤ kT x d ∧ kT x d < 30 by omega)))))
          · refine J_icmple 193 C iL_test_173 rfl (fun h173 => absurd h173 (nI_ge (a := 29) (b := (kT x d)) (by omega) (by omega))) (fun h173 => ?_)
            refine J_aload_n C iL_test_176 rfl rfl ?_
            refine J_iload_n C iL_test_177 rfl rfl ?_
            refine J_bipush 7 C iL_test_178 rfl ?_
            refine J_imul C iL_test_180 ?_
            refine J_iconst 3 C iL_test_181 rfl ?_
            refine J_iadd C iL_test_182 ?_
            refine J_iload_n C iL_test_183 rfl rfl ?_
            refine J_iload_n C iL_test_184 rfl rfl ?_
            refine J_iconst 1 C iL_test_185 rfl ?_
            refine J_iadd C iL_test_186 ?_
            rw [show (nI d) + 1 = nI (d + 1) from nI_add _ _]
            refine J_room (rc2 := (cN fu) + (0 + 0 * cN fu)) (rs2 := (sN fu) + (0 + 0 * sN fu)) (by omega) (by omega) ?_
            refine J_cSb (As := [.int ((x * 7) + 3), .int (nI n), .int (nI (d + 1))]) (st := .ref n1 :: []) (rc2 := 0 + 0 * cN fu) (rs2 := 0 + 0 * sN fu) (w0 := []) C iL_test_187 lm_L_63 yc_L_test ys_L_test (ih (x := (x * 7) + 3) (d := (d + 1)) (ndt_t hd hk28)) (wNd Z n1 (nI (kT x d)) (nI (belN (x >>> (4 &&& 31)) n)) (nI (belN (x >>> (6 &&& 31)) n)) (.ref a3) .null ++ wPl Z L3) [] (by simp only [List.append_assoc, List.append_nil, List.nil_append]) rfl (rmS_le (by omega) (by decide)) (Nat.le_of_ble_eq_true rfl) rfl rfl ?_
            rintro _ _ ⟨L4, a4, rfl, rfl, hi4⟩
            refine J_st (.ref a4 :: .ref n1 :: []) rfl ?_
            refine J_ws ((wNd Z n1 (nI (kT x d)) (nI (belN (x >>> (4 &&& 31)) n)) (nI (belN (x >>> (6 &&& 31)) n)) (.ref a3) .null ++ wPl Z L3) ++ wPl Z L4) (by simp only [List.append_assoc, List.append_nil, List.nil_append]) ?_
            refine J_put ((wNd Z n1 (nI (kT x d)) (nI (belN (x >>> (4 &&& 31)) n)) (nI (belN (x >>> (6 &&& 31)) n)) (.ref a3) (.ref a4) ++ wPl Z L3) ++ wPl Z L4) 0 C iL_test_190 pf_L_57 rfl rfl rfl (Nat.le_of_ble_eq_true rfl) rfl ?_
            refine J_aload_n C iL_test_193 rfl rfl ?_
            exact J_aret C E iL_test_194 (Or.inl ⟨_, rfl⟩) (MkT.mk (q := (true, x, d)) (L1 := L3) (L2 := L4) (oa := (some a3)) (ob := (some a4)) rfl rfl (fun _ => ⟨_, rfl, by rw [kdA, if_pos rfl, if_neg hk25]; exact hi3⟩) (fun _ => ⟨_, rfl, by rw [kdB, if_pos rfl, if_neg hk25]; exact hi4⟩))
    · refine J_aload_n C iL_test_18 rfl rfl ?_
      refine J_iload C iL_test_19 rfl ?_
      refine J_iconst 5 C iL_test_21 rfl ?_
      by_cases hw5 : wT x < 5
      · refine J_icmplt 37 C iL_test_22 rfl (fun h22 => ?_) (fun h22 => absurd (nI_lt (a := (wT x)) (b := 5) (by omega) (by omega)) h22)
        refine J_bipush 20 C iL_test_37 rfl ?_
        refine J_iload C iL_test_39 rfl ?_
        refine J_iconst 5 C iL_test_41 rfl ?_
        refine J_irem C iL_test_42 (by decide) ?_
        rw [show ((nI (wT x)) - (nI (wT x)) / 5 * 5 : Int32) = nI ((wT x) % 5) from pk_rem (a := (wT x)) (d := 5) (by omega) (by omega) (by omega)]
        refine J_iadd C iL_test_43 ?_
        rw [show 20 + (nI ((wT x) % 5)) = nI (20 + ((wT x) % 5)) from nI_add _ _]
        refine J_goto 71 C iL_test_44 rfl ?_
        refine J_st (.int (nI (kT x d)) :: .ref n1 :: []) (congrArg (fun z => (.int z :: .ref n1 :: [] : List Value)) (show (nI (20 + ((wT x) % 5)) : Int32) = nI (kT x d) from congrArg nI (show 20 + wT x % 5 = kT x d by rw [kT, if_pos hw5]))) ?_
        refine J_lvm [(4, .int (nI (wT x))), (3, .ref n1), (0, .int x), (1, .int (nI n)), (2, .int (nI d))] rfl ?_
        exact hk71 () trivial
      · refine J_icmplt 37 C iL_test_22 rfl (fun h22 => absurd h22 (nI_nlt (a := (wT x)) (b := 5) (by omega) (by omega))) (fun h22 => ?_)
        refine J_iload_n C iL_test_25 rfl rfl ?_
        refine J_iconst 1 C iL_test_26 rfl ?_
        by_cases hd1 : 1 < d
        · refine J_icmple 47 C iL_test_27 rfl (fun h27 => absurd h27 (nI_ge (a := 1) (b := d) (by omega) (by omega))) (fun h27 => ?_)
          refine J_iload C iL_test_30 rfl ?_
          refine J_bipush 10 C iL_test_32 rfl ?_
          by_cases hw10 : 10 < wT x
          · refine J_icmple 47 C iL_test_34 rfl (fun h34 => absurd h34 (nI_ge (a := 10) (b := (wT x)) (by omega) (by omega))) (fun h34 => ?_)
            refine J_bipush 20 C iL_test_37 rfl ?_
            refine J_iload C iL_test_39 rfl ?_
            refine J_iconst 5 C iL_test_41 rfl ?_
            refine J_irem C iL_test_42 (by decide) ?_
            rw [show ((nI (wT x)) - (nI (wT x)) / 5 * 5 : Int32) = nI ((wT x) % 5) from pk_rem (a := (wT x)) (d := 5) (by omega) (by omega) (by omega)]
            refine J_iadd C iL_test_43 ?_
            rw [show 20 + (nI ((wT x) % 5)) = nI (20 + ((wT x) % 5)) from nI_add _ _]
            refine J_goto 71 C iL_test_44 rfl ?_
            refine J_st (.int (nI (kT x d)) :: .ref n1 :: []) (congrArg (fun z => (.int z :: .ref n1 :: [] : List Value)) (show (nI (20 + ((wT x) % 5)) : Int32) = nI (kT x d) from congrArg nI (show 20 + wT x % 5 = kT x d by rw [kT, if_neg hw5, if_pos ⟨hd1, hw10⟩]))) ?_
            refine J_lvm [(4, .int (nI (wT x))), (3, .ref n1), (0, .int x), (1, .int (nI n)), (2, .int (nI d))] rfl ?_
            exact hk71 () trivial
          · refine J_icmple 47 C iL_test_34 rfl (fun h34 => ?_) (fun h34 => absurd (nI_le (a := (wT x)) (b := 10) (by omega) (by omega)) h34)
            refine J_iload C iL_test_47 rfl ?_
            refine J_bipush 11 C iL_test_49 rfl ?_
            by_cases hw11 : wT x < 11
            · refine J_icmpge 64 C iL_test_51 rfl (fun h51 => absurd h51 (nI_ge (a := (wT x)) (b := 11) (by omega) (by omega))) (fun h51 => ?_)
              refine J_bipush 25 C iL_test_54 rfl ?_
              refine J_iload C iL_test_56 rfl ?_
              refine J_iconst 2 C iL_test_58 rfl ?_
              refine J_irem C iL_test_59 (by decide) ?_
              rw [show ((nI (wT x)) - (nI (wT x)) / 2 * 2 : Int32) = nI ((wT x) % 2) from pk_rem (a := (wT x)) (d := 2) (by omega) (by omega) (by omega)]
              refine J_iadd C iL_test_60 ?_
              rw [show 25 + (nI ((wT x) % 2)) = nI (25 + ((wT x) % 2)) from nI_add _ _]
              refine J_goto 71 C iL_test_61 rfl ?_
              refine J_st (.int (nI (kT x d)) :: .ref n1 :: []) (congrArg (fun z => (.int z :: .ref n1 :: [] : List Value)) (show (nI (25 + ((wT x) % 2)) : Int32) = nI (kT x d) from congrArg nI (show 25 + wT x % 2 = kT x d by rw [kT, if_neg hw5, if_neg (fun z => hw10 z.2), if_pos hw11]))) ?_
              refine J_lvm [(4, .int (nI (wT x))), (3, .ref n1), (0, .int x), (1, .int (nI n)), (2, .int (nI d))] rfl ?_
              exact hk71 () trivial
            · refine J_icmpge 64 C iL_test_51 rfl (fun h51 => ?_) (fun h51 => absurd (nI_le (a := 11) (b := (wT x)) (by omega) (by omega)) h51)
              refine J_bipush 29 C iL_test_64 rfl ?_
              refine J_iload C iL_test_66 rfl ?_
              refine J_iconst 3 C iL_test_68 rfl ?_
              refine J_irem C iL_test_69 (by decide) ?_
              rw [show ((nI (wT x)) - (nI (wT x)) / 3 * 3 : Int32) = nI ((wT x) % 3) from pk_rem (a := (wT x)) (d := 3) (by omega) (by omega) (by omega)]
              refine J_iadd C iL_test_70 ?_
              rw [show 29 + (nI ((wT x) % 3)) = nI (29 + ((wT x) % 3)) from nI_add _ _]
              refine J_st (.int (nI (kT x d)) :: .ref n1 :: []) (congrArg (fun z => (.int z :: .ref n1 :: [] : List Value)) (show (nI (29 + ((wT x) % 3)) : Int32) = nI (kT x d) from congrArg nI (show 29 + wT x % 3 = kT x d by rw [kT, if_neg hw5, if_neg (fun z => hw10 z.2), if_neg hw11]))) ?_
              refine J_lvm [(4, .int (nI (wT x))), (3, .ref n1), (0, .int x), (1, .int (nI n)), (2, .int (nI d))] rfl ?_
              exact hk71 () trivial
        · refine J_icmple 47 C iL_test_27 rfl (fun h27 => ?_) (fun h27 => absurd (nI_le (a := d) (b := 1) (by omega) (by omega)) h27)
          refine J_iload C iL_test_47 rfl ?_
          refine J_bipush 11 C iL_test_49 rfl ?_
          by_cases hw11 : wT x < 11
          · refine J_icmpge 64 C iL_test_51 rfl (fun h51 => absurd h51 (nI_ge (a := (wT x)) (b := 11) (by omega) (by omega))) (fun h51 => ?_)
            refine J_bipush 25 C iL_test_54 rfl ?_
            refine J_iload C iL_test_56 rfl ?_
            refine J_iconst 2 C iL_test_58 rfl ?_
            refine J_irem C iL_test_59 (by decide) ?_
            rw [show ((nI (wT x)) - (nI (wT x)) / 2 * 2 : Int32) = nI ((wT x) % 2) from pk_rem (a := (wT x)) (d := 2) (by omega) (by omega) (by omega)]
            refine J_iadd C iL_test_60 ?_
            rw [show 25 + (nI ((wT x) % 2)) = nI (25 + ((wT x) % 2)) from nI_add _ _]
            refine J_goto 71 C iL_test_61 rfl ?_
            refine J_st (.int (nI (kT x d)) :: .ref n1 :: []) (congrArg (fun z => (.int z :: .ref n1 :: [] : List Value)) (show (nI (25 + ((wT x) % 2)) : Int32) = nI (kT x d) from congrArg nI (show 25 + wT x % 2 = kT x d by rw [kT, if_neg hw5, if_neg (fun z => hd1 z.1), if_pos hw11]))) ?_
            refine J_lvm [(4, .int (nI (wT x))), (3, .ref n1), (0, .int x), (1, .int (nI n)), (2, .int (nI d))] rfl ?_
            exact hk71 () trivial
          · refine J_icmpge 64 C iL_test_51 rfl (fun h51 => ?_) (fun h51 => absurd (nI_le (a := 11) (b := (wT x)) (by omega) (by omega)) h51)
            refine J_bipush 29 C iL_test_64 rfl ?_
            refine J_iload C iL_test_66 rfl ?_
            refine J_iconst 3 C iL_test_68 rfl ?_
            refine J_irem C iL_test_69 (by decide) ?_
            rw [show ((nI (wT x)) - (nI (wT x)) / 3 * 3 : Int32) = nI ((wT x) % 3) from pk_rem (a := (wT x)) (d := 3) (by omega) (by omega) (by omega)]
            refine J_iadd C iL_test_70 ?_
            rw [show 29 + (nI ((wT x) % 3)) = nI (29 + ((wT x) % 3)) from nI_add _ _]
            refine J_st (.int (nI (kT x d)) :: .ref n1 :: []) (congrArg (fun z => (.int z :: .ref n1 :: [] : List Value)) (show (nI (29 + ((wT x) % 3)) : Int32) = nI (kT x d) from congrArg nI (show 29 + wT x % 3 = kT x d by rw [kT, if_neg hw5, if_neg (fun z => hd1 z.1), if_neg hw11]))) ?_
            refine J_lvm [(4, .int (nI (wT x))), (3, .ref n1), (0, .int x), (1, .int (nI n)), (2, .int (nI d))] rfl ?_
            exact hk71 () trivial

