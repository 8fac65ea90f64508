set_option maxRecDepth 100000 in
set_option maxHeartbeats 4000000 in
theorem c_X9_tall {Z : GZ} {l : Launch} {s n m hA lA oA tA eA : Nat} {rw lr p h f t : Nat → Nat} {fo ft fe : Nat → Option Nat} {dy ca : Int32} {i k : Nat} (ok : SnOk n p h f t) (hi : i < n) (hk : k < 24) : Ct Z l yX9_tall cX9_tall 3 (some .int) (rmK 0) [.ref s, .int (nI i), .int (nI k)] (wSim Z s n m hA lA oA tA eA (fun j => some (rw j)) (fun j => some (lr j)) fo ft fe dy ca ++ wRw Z n rw p h f t) (fun v w => v = some (.int (nI (tlN h f t i k))) ∧ w = (wSim Z s n m hA lA oA tA eA (fun j => some (rw j)) (fun j => some (lr j)) fo ft fe dy ca ++ wRw Z n rw p h f t)) := by
  refine Ct.ofJ (own := RX9) (nm := "tall") (lv0 := [(0, .ref s), (1, .int (nI i)), (2, .int (nI k))]) (by decide) rfl rfl (Nat.le_of_ble_eq_true rfl) rfl (fun X hXl C E => ?_)
  subst hXl
  refine J_room (rc2 := 0) (rs2 := 0) (Nat.le_refl _) (Nat.le_refl _) ?_
  have hn12 := ok.1
  refine J_aload_n C iX9_tall_0 rfl rfl ?_
  refine J_get (.ref hA) 0 C iX9_tall_1 gf_X9_9 rfl rfl ?_
  refine J_iload_n C iX9_tall_4 rfl rfl ?_
  refine J_aaldA 1 C iX9_tall_5 rfl (vp_in_nI (n := i) (by omega) (by omega)) ?_
  rw [nI_clamp (n := i) (by omega)]
  refine J_st (.ref (rw i) :: []) rfl ?_
  refine J_iconst 2 C iX9_tall_6 rfl ?_
  refine J_iald (n := 4) (f := rowF p h f t i) (((wSim Z s n m hA lA oA tA eA (fun j => some (rw j)) (fun j => some (lr j)) fo ft fe dy ca)).length + i) C iX9_tall_7 (mid_at (A := (wSim Z s n m hA lA oA tA eA (fun j => some (rw j)) (fun j => some (lr j)) fo ft fe dy ca)) (M := wRw Z n rw p h f t) (B := []) (by simp only [List.append_assoc, List.append_nil, List.nil_append]) (wRw_at (by omega))) (vp_in_nI (n := 2) (by decide) (by decide)) ?_
  refine J_st (.int (cuI (f i)) :: []) rfl ?_
  refine J_iflt 39 C iX9_tall_8 rfl (fun h8 => ?_) (fun h8 => ?_)
  · refine J_aload_n C iX9_tall_39 rfl rfl ?_
    refine J_get (.ref hA) 0 C iX9_tall_40 gf_X9_9 rfl rfl ?_
    refine J_iload_n C iX9_tall_43 rfl rfl ?_
    refine J_aaldA 1 C iX9_tall_44 rfl (vp_in_nI (n := i) (by omega) (by omega)) ?_
    rw [nI_clamp (n := i) (by omega)]
    refine J_st (.ref (rw i) :: []) rfl ?_
    refine J_iconst 1 C iX9_tall_45 rfl ?_
    refine J_iald (n := 4) (f := rowF p h f t i) (((wSim Z s n m hA lA oA tA eA (fun j => some (rw j)) (fun j => some (lr j)) fo ft fe dy ca)).length + i) C iX9_tall_46 (mid_at (A := (wSim Z s n m hA lA oA tA eA (fun j => some (rw j)) (fun j => some (lr j)) fo ft fe dy ca)) (M := wRw Z n rw p h f t) (B := []) (by simp only [List.append_assoc, List.append_nil, List.nil_append]) (wRw_at (by omega))) (vp_in_nI (n := 1) (by decide) (by decide)) ?_
    refine J_st (.int (nI (h i)) :: []) rfl ?_
    exact J_iret C E iX9_tall_47 ⟨congrArg (fun z => some (Value.int z)) (tl_a ok (by omega) hi h8), rfl⟩
  · refine J_iload_n C iX9_tall_11 rfl rfl ?_
    refine J_aload_n C iX9_tall_12 rfl rfl ?_
    refine J_get (.ref hA) 0 C iX9_tall_13 gf_X9_9 rfl rfl ?_
    refine J_iload_n C iX9_tall_16 rfl rfl ?_
    refine J_aaldA 1 C iX9_tall_17 rfl (vp_in_nI (n := i) (by omega) (by omega)) ?_
    rw [nI_clamp (n := i) (by omega)]
    refine J_st (.ref (rw i) :: .int (nI k) :: []) rfl ?_
    refine J_iconst 2 C iX9_tall_18 rfl ?_
    refine J_iald (n := 4) (f := rowF p h f t i) (((wSim Z s n m hA lA oA tA eA (fun j => some (rw j)) (fun j => some (lr j)) fo ft fe dy ca)).length + i) C iX9_tall_19 (mid_at (A := (wSim Z s n m hA lA oA tA eA (fun j => some (rw j)) (fun j => some (lr j)) fo ft fe dy ca)) (M := wRw Z n rw p h f t) (B := []) (by simp only [List.append_assoc, List.append_nil, List.nil_append]) (wRw_at (by omega))) (vp_in_nI (n := 2) (by decide) (by decide)) ?_
    refine J_st (.int (cuI (f i)) :: .int (nI k) :: []) rfl ?_
    refine J_icmplt 39 C iX9_tall_20 rfl (fun h20 => ?_) (fun h20 => ?_)
    · refine J_aload_n C iX9_tall_39 rfl rfl ?_
      refine J_get (.ref hA) 0 C iX9_tall_40 gf_X9_9 rfl rfl ?_
      refine J_iload_n C iX9_tall_43 rfl rfl ?_
      refine J_aaldA 1 C iX9_tall_44 rfl (vp_in_nI (n := i) (by omega) (by omega)) ?_
      rw [nI_clamp (n := i) (by omega)]
      refine J_st (.ref (rw i) :: []) rfl ?_
      refine J_iconst 1 C iX9_tall_45 rfl ?_
      refine J_iald (n := 4) (f := rowF p h f t i) (((wSim Z s n m hA lA oA tA eA (fun j => some (rw j)) (fun j => some (lr j)) fo ft fe dy ca)).length + i) C iX9_tall_46 (mid_at (A := (wSim Z s n m hA lA oA tA eA (fun j => some (rw j)) (fun j => some (lr j)) fo ft fe dy ca)) (M := wRw Z n rw p h f t) (B := []) (by simp only [List.append_assoc, List.append_nil, List.nil_append]) (wRw_at (by omega))) (vp_in_nI (n := 1) (by decide) (by decide)) ?_
      refine J_st (.int (nI (h i)) :: []) rfl ?_
      exact J_iret C E iX9_tall_47 ⟨congrArg (fun z => some (Value.int z)) (tl_b ok (by omega) hi h8 h20), rfl⟩
    · refine J_iload_n C iX9_tall_23 rfl rfl ?_
      refine J_aload_n C iX9_tall_24 rfl rfl ?_
      refine J_get (.ref hA) 0 C iX9_tall_25 gf_X9_9 rfl rfl ?_
      refine J_iload_n C iX9_tall_28 rfl rfl ?_
      refine J_aaldA 1 C iX9_tall_29 rfl (vp_in_nI (n := i) (by omega) (by omega)) ?_
      rw [nI_clamp (n := i) (by omega)]
      refine J_st (.ref (rw i) :: .int (nI k) :: []) rfl ?_
      refine J_iconst 3 C iX9_tall_30 rfl ?_
      refine J_iald (n := 4) (f := rowF p h f t i) (((wSim Z s n m hA lA oA tA eA (fun j => some (rw j)) (fun j => some (lr j)) fo ft fe dy ca)).length + i) C iX9_tall_31 (mid_at (A := (wSim Z s n m hA lA oA tA eA (fun j => some (rw j)) (fun j => some (lr j)) fo ft fe dy ca)) (M := wRw Z n rw p h f t) (B := []) (by simp only [List.append_assoc, List.append_nil, List.nil_append]) (wRw_at (by omega))) (vp_in_nI (n := 3) (by decide) (by decide)) ?_
      refine J_st (.int (cuI (t i)) :: .int (nI k) :: []) rfl ?_
      refine J_icmpgt 39 C iX9_tall_32 rfl (fun h32 => ?_) (fun h32 => ?_)
      · refine J_aload_n C iX9_tall_39 rfl rfl ?_
        refine J_get (.ref hA) 0 C iX9_tall_40 gf_X9_9 rfl rfl ?_
        refine J_iload_n C iX9_tall_43 rfl rfl ?_
        refine J_aaldA 1 C iX9_tall_44 rfl (vp_in_nI (n := i) (by omega) (by omega)) ?_
        rw [nI_clamp (n := i) (by omega)]
        refine J_st (.ref (rw i) :: []) rfl ?_
        refine J_iconst 1 C iX9_tall_45 rfl ?_
        refine J_iald (n := 4) (f := rowF p h f t i) (((wSim Z s n m hA lA oA tA eA (fun j => some (rw j)) (fun j => some (lr j)) fo ft fe dy ca)).length + i) C iX9_tall_46 (mid_at (A := (wSim Z s n m hA lA oA tA eA (fun j => some (rw j)) (fun j => some (lr j)) fo ft fe dy ca)) (M := wRw Z n rw p h f t) (B := []) (by simp only [List.append_assoc, List.append_nil, List.nil_append]) (wRw_at (by omega))) (vp_in_nI (n := 1) (by decide) (by decide)) ?_
        refine J_st (.int (nI (h i)) :: []) rfl ?_
        exact J_iret C E iX9_tall_47 ⟨congrArg (fun z => some (Value.int z)) (tl_c ok (by omega) hi h8 h20 h32), rfl⟩
      · refine J_iconst 0 C iX9_tall_35 rfl ?_
        refine J_goto 47 C iX9_tall_36 rfl ?_
        exact J_iret C E iX9_tall_47 ⟨congrArg (fun z => some (Value.int z)) (tl_d ok (by omega) hi h8 h20 h32), rfl⟩

set_option maxRecDepth 100000 in
set_option maxHeartbeats 4000000 in
theorem c_X9_reach {Z : GZ} {l : Launch} {s n m hA lA oA tA eA : Nat} {rw lr p h f t : Nat → Nat} {fo ft fe : Nat → Option Nat} {dy ca : Int32} {i k : Nat} (ok : SnOk n p h f t) (hi : i < n) (hk : k < 24) : Ct Z l yX9_reach cX9_reach 5 (some .int) (rmK 1) [.ref s, .int (nI i), .int (nI k)] (wSim Z s n m hA lA oA tA eA (fun j => some (rw j)) (fun j => some (lr j)) fo ft fe dy ca ++ wRw Z n rw p h f t) (fun v w => v = some (.int (nI (rcN h f t i k))) ∧ w = (wSim Z s n m hA lA oA tA eA (fun j => some (rw j)) (fun j => some (lr j)) fo ft fe dy ca ++ wRw Z n rw p h f t)) := by
  refine Ct.ofJ (own := RX9) (nm := "reach") (lv0 := [(0, .ref s), (1, .int (nI i)), (2, .int (nI k))]) (by decide) rfl rfl (Nat.le_of_ble_eq_true rfl) rfl (fun X hXl C E => ?_)
  subst hXl
  refine J_room (rc2 := 0) (rs2 := 0) (Nat.le_refl _) (Nat.le_refl _) ?_
  have hn12 := ok.1
  have hts := ts_le ok hi hk
  refine J_iload_n C iX9_reach_0 rfl rfl ?_
  refine J_bipush 6 C iX9_reach_1 rfl ?_
  by_cases h6 : k < 6
  · refine J_icmplt 12 C iX9_reach_3 rfl (fun h3 => ?_) (fun h3 => absurd (nI_lt (a := k) (b := 6) (by omega) (by omega)) h3)
    refine J_iconst 0 C iX9_reach_12 rfl ?_
    exact J_iret C E iX9_reach_13 ⟨congrArg (fun z => some (Value.int z)) (show (0 : Int32) = nI (rcN h f t i k) by rw [rcN, if_pos (by omega)]; rfl), rfl⟩
  · refine J_icmplt 12 C iX9_reach_3 rfl (fun h3 => absurd h3 (nI_nlt (a := k) (b := 6) (by omega) (by omega))) (fun h3 => ?_)
    refine J_iload_n C iX9_reach_6 rfl rfl ?_
    refine J_bipush 18 C iX9_reach_7 rfl ?_
    by_cases h18 : k ≤ 18
    · refine J_icmple 14 C iX9_reach_9 rfl (fun h9 => ?_) (fun h9 => absurd (nI_le (a := k) (b := 18) (by omega) (by omega)) h9)
      refine J_iload_n C iX9_reach_14 rfl rfl ?_
      refine J_bipush 12 C iX9_reach_15 rfl ?_
      by_cases h12 : k < 12
      · refine J_icmpge 27 C iX9_reach_17 rfl (fun h17 => absurd h17 (nI_ge (a := k) (b := 12) (by omega) (by omega))) (fun h17 => ?_)
        refine J_bipush 12 C iX9_reach_20 rfl ?_
        refine J_iload_n C iX9_reach_22 rfl rfl ?_
        refine J_isub C iX9_reach_23 ?_
        rw [show 12 - (nI k) = nI (12 - k) from pk_sub (a := 12) (b := k) (by omega)]
        refine J_goto 31 C iX9_reach_24 rfl ?_
        rw [show 12 - k = spN k from by unfold spN; split <;> omega]
        refine J_istore_n [(3, .int (nI (spN k))), (0, .ref s), (1, .int (nI i)), (2, .int (nI k))] C iX9_reach_31 rfl (by decide) rfl ?_
        refine J_iconst 0 C iX9_reach_32 rfl ?_
        refine J_istore [(4, .int 0), (3, .int (nI (spN k))), (0, .ref s), (1, .int (nI i)), (2, .int (nI k))] C iX9_reach_33 (by decide) rfl ?_
        refine J_lvm [(4, .int (nI 0)), (3, .int (nI (spN k))), (2, .int (nI k)), (1, .int (nI i)), (0, .ref s)] rfl ?_
        refine J_for (fun j => [(4, .int (nI j)), (3, .int (nI (spN k))), (2, .int (nI k)), (1, .int (nI i)), (0, .ref s)]) (fun j => (wSim Z s n m hA lA oA tA eA (fun j => some (rw j)) (fun j => some (lr j)) fo ft fe dy ca ++ wRw Z n rw p h f t)) (tlN h f t i k * spN k / 2) 0 (by omega) ?_ (fun j hj0 hj ihj => ?_)
        · refine J_iconst 2 C iX9_reach_35 rfl ?_
          refine J_iload C iX9_reach_36 rfl ?_
          refine J_iconst 1 C iX9_reach_38 rfl ?_
          refine J_iadd C iX9_reach_39 ?_
          rw [show (nI (tlN h f t i k * spN k / 2)) + 1 = nI ((tlN h f t i k * spN k / 2) + 1) from nI_add _ _]
          refine J_imul C iX9_reach_40 ?_
          rw [show (2 * (nI ((tlN h f t i k * spN k / 2) + 1)) : Int32) = nI (2 * ((tlN h f t i k * spN k / 2) + 1)) from pk_mul 2 ((tlN h f t i k * spN k / 2) + 1)]
          refine J_aload_n C iX9_reach_41 rfl rfl ?_
          refine J_iload_n C iX9_reach_42 rfl rfl ?_
          refine J_iload_n C iX9_reach_43 rfl rfl ?_
          refine J_cVb (As := [.int (nI i), .int (nI k)]) (st := .int (nI (2 * ((tlN h f t i k * spN k / 2) + 1))) :: []) (rc2 := 0) (rs2 := 0) (w0 := (wSim Z s n m hA lA oA tA eA (fun j => some (rw j)) (fun j => some (lr j)) fo ft fe dy ca ++ wRw Z n rw p h f t)) (q0 := 0) C iX9_reach_44 lm_X9_42 yc_X9_tall yv_X9_tall (c_X9_tall (i := i) (k := k) ok (by omega) (by omega)) rfl rfl rfl [] [] (by simp only [List.append_assoc, List.append_nil, List.nil_append]) rfl ⟨Nat.le_of_ble_eq_true rfl, Nat.le_of_ble_eq_true rfl⟩ (Nat.le_of_ble_eq_true rfl) (Nat.zero_add _).symm (Nat.zero_add _).symm ?_
          rintro _ _ ⟨rfl, rfl⟩
          refine J_st (.int (nI (tlN h f t i k)) :: .int (nI (2 * ((tlN h f t i k * spN k / 2) + 1))) :: []) rfl ?_
          refine J_ws (wSim Z s n m hA lA oA tA eA (fun j => some (rw j)) (fun j => some (lr j)) fo ft fe dy ca ++ wRw Z n rw p h f t) (by simp only [List.append_assoc, List.append_nil, List.nil_append]) ?_
          refine J_iload_n C iX9_reach_47 rfl rfl ?_
          refine J_imul C iX9_reach_48 ?_
          rw [show ((nI (tlN h f t i k)) * (nI (spN k)) : Int32) = nI ((tlN h f t i k) * (spN k)) from pk_mul (tlN h f t i k) (spN k)]
          refine J_icmpgt 58 C iX9_reach_49 rfl (fun h49 => ?_) (fun h49 => absurd (nI_lt (a := tlN h f t i k * spN k) (b := 2 * (tlN h f t i k * spN k / 2 + 1)) (by omega) (by omega)) h49)
          refine J_iload C iX9_reach_58 rfl ?_
          exact J_iret C E iX9_reach_60 ⟨congrArg (fun z => some (Value.int z)) (show nI (tlN h f t i k * spN k / 2) = nI (rcN h f t i k) by rw [rcN, if_neg (by omega)]), rfl⟩
        · refine J_iconst 2 C iX9_reach_35 rfl ?_
          refine J_iload C iX9_reach_36 rfl ?_
          refine J_iconst 1 C iX9_reach_38 rfl ?_
          refine J_iadd C iX9_reach_39 ?_
          rw [show (nI j) + 1 = nI (j + 1) from nI_add _ _]
          refine J_imul C iX9_reach_40 ?_
          rw [show (2 * (nI (j + 1)) : Int32) = nI (2 * (j + 1)) from pk_mul 2 (j + 1)]
          refine J_aload_n C iX9_reach_41 rfl rfl ?_
          refine J_iload_n C iX9_reach_42 rfl rfl ?_
          refine J_iload_n C iX9_reach_43 rfl rfl ?_
          refine J_cVb (As := [.int (nI i), .int (nI k)]) (st := .int (nI (2 * (j + 1))) :: []) (rc2 := 0) (rs2 := 0) (w0 := (wSim Z s n m hA lA oA tA eA (fun j => some (rw j)) (fun j => some (lr j)) fo ft fe dy ca ++ wRw Z n rw p h f t)) (q0 := 0) C iX9_reach_44 lm_X9_42 yc_X9_tall yv_X9_tall (c_X9_tall (i := i) (k := k) ok (by omega) (by omega)) rfl rfl rfl [] [] (by simp only [List.append_assoc, List.append_nil, List.nil_append]) rfl ⟨Nat.le_of_ble_eq_true rfl, Nat.le_of_ble_eq_true rfl⟩ (Nat.le_of_ble_eq_true rfl) (Nat.zero_add _).symm (Nat.zero_add _).symm ?_
          rintro _ _ ⟨rfl, rfl⟩
          refine J_st (.int (nI (tlN h f t i k)) :: .int (nI (2 * (j + 1))) :: []) rfl ?_
          refine J_ws (wSim Z s n m hA lA oA tA eA (fun j => some (rw j)) (fun j => some (lr j)) fo ft fe dy ca ++ wRw Z n rw p h f t) (by simp only [List.append_assoc, List.append_nil, List.nil_append]) ?_
          refine J_iload_n C iX9_reach_47 rfl rfl ?_
          refine J_imul C iX9_reach_48 ?_
          rw [show ((nI (tlN h f t i k)) * (nI (spN k)) : Int32) = nI ((tlN h f t i k) * (spN k)) from pk_mul (tlN h f t i k) (spN k)]
          refine J_icmpgt 58 C iX9_reach_49 rfl (fun h49 => absurd h49 (nI_nlt (a := tlN h f t i k * spN k) (b := 2 * (j + 1)) (by omega) (by omega))) (fun h49 => ?_)
          refine J_iinc ((nI j) + 1) [(4, .int ((nI j) + 1)), (3, .int (nI (spN k))), (2, .int (nI k)), (1, .int (nI i)), (0, .ref s)] C iX9_reach_52 rfl rfl (by decide) rfl ?_
          rw [show (nI j) + 1 = nI (j + 1) from nI_add _ _]
          refine J_goto 35 C iX9_reach_55 rfl ?_
          refine J_lvm [(4, .int (nI (j + 1))), (3, .int (nI (spN k))), (2, .int (nI k)), (1, .int (nI i)), (0, .ref s)] rfl ?_
          exact ihj
      · refine J_icmpge 27 C iX9_reach_17 rfl (fun h17 => ?_) (fun h17 => absurd (nI_le (a := 12) (b := k) (by omega) (by omega)) h17)
        refine J_iload_n C iX9_reach_27 rfl rfl ?_
        refine J_bipush 12 C iX9_reach_28 rfl ?_
        refine J_isub C iX9_reach_30 ?_
        rw [show (nI k) - 12 = nI (k - 12) from pk_sub (a := k) (b := 12) (by omega)]
        rw [show k - 12 = spN k from by unfold spN; split <;> omega]
        refine J_istore_n [(3, .int (nI (spN k))), (0, .ref s), (1, .int (nI i)), (2, .int (nI k))] C iX9_reach_31 rfl (by decide) rfl ?_
        refine J_iconst 0 C iX9_reach_32 rfl ?_
        refine J_istore [(4, .int 0), (3, .int (nI (spN k))), (0, .ref s), (1, .int (nI i)), (2, .int (nI k))] C iX9_reach_33 (by decide) rfl ?_
        refine J_lvm [(4, .int (nI 0)), (3, .int (nI (spN k))), (2, .int (nI k)), (1, .int (nI i)), (0, .ref s)] rfl ?_
        refine J_for (fun j => [(4, .int (nI j)), (3, .int (nI (spN k))), (2, .int (nI k)), (1, .int (nI i)), (0, .ref s)]) (fun j => (wSim Z s n m hA lA oA tA eA (fun j => some (rw j)) (fun j => some (lr j)) fo ft fe dy ca ++ wRw Z n rw p h f t)) (tlN h f t i k * spN k / 2) 0 (by omega) ?_ (fun j hj0 hj ihj => ?_)
        · refine J_iconst 2 C iX9_reach_35 rfl ?_
          refine J_iload C iX9_reach_36 rfl ?_
          refine J_iconst 1 C iX9_reach_38 rfl ?_
          refine J_iadd C iX9_reach_39 ?_
          rw [show (nI (tlN h f t i k * spN k / 2)) + 1 = nI ((tlN h f t i k * spN k / 2) + 1) from nI_add _ _]
          refine J_imul C iX9_reach_40 ?_
          rw [show (2 * (nI ((tlN h f t i k * spN k / 2) + 1)) : Int32) = nI (2 * ((tlN h f t i k * spN k / 2) + 1)) from pk_mul 2 ((tlN h f t i k * spN k / 2) + 1)]
          refine J_aload_n C iX9_reach_41 rfl rfl ?_
          refine J_iload_n C iX9_reach_42 rfl rfl ?_
          refine J_iload_n C iX9_reach_43 rfl rfl ?_
          refine J_cVb (As := [.int (nI i), .int (nI k)]) (st := .int (nI (2 * ((tlN h f t i k * spN k / 2) + 1))) :: []) (rc2 := 0) (rs2 := 0) (w0 := (wSim Z s n m hA lA oA tA eA (fun j => some (rw j)) (fun j => some (lr j)) fo ft fe dy ca ++ wRw Z n rw p h f t)) (q0 := 0) C iX9_reach_44 lm_X9_42 yc_X9_tall yv_X9_tall (c_X9_tall (i := i) (k := k) ok (by omega) (by omega)) rfl rfl rfl [] [] (by simp only [List.append_assoc, List.append_nil, List.nil_append]) rfl ⟨Nat.le_of_ble_eq_true rfl, Nat.le_of_ble_eq_true rfl⟩ (Nat.le_of_ble_eq_true rfl) (Nat.zero_add _).symm (Nat.zero_add _).symm ?_
          rintro _ _ ⟨rfl, rfl⟩
          refine J_st (.int (nI (tlN h f t i k)) :: .int (nI (2 * ((tlN h f t i k * spN k / 2) + 1))) :: []) rfl ?_
          refine J_ws (wSim Z s n m hA lA oA tA eA (fun j => some (rw j)) (fun j => some (lr j)) fo ft fe dy ca ++ wRw Z n rw p h f t) (by simp only [List.append_assoc, List.append_nil, List.nil_append]) ?_
          refine J_iload_n C iX9_reach_47 rfl rfl ?_
          refine J_imul C iX9_reach_48 ?_
          rw [show ((nI (tlN h f t i k)) * (nI (spN k)) : Int32) = nI ((tlN h f t i k) * (spN k)) from pk_mul (tlN h f t i k) (spN k)]
          refine J_icmpgt 58 C iX9_reach_49 rfl (fun h49 => ?_) (fun h49 => absurd (nI_lt (a := tlN h f t i k * spN k) (b := 2 * (tlN h f t i k * spN k / 2 + 1)) (by omega) (by omega)) h49)
          refine J_iload C iX9_reach_58 rfl ?_
          exact J_iret C E iX9_reach_60 ⟨congrArg (fun z => some (Value.int z)) (show nI (tlN h f t i k * spN k / 2) = nI (rcN h f t i k) by rw [rcN, if_neg (by omega)]), rfl⟩
        · refine J_iconst 2 C iX9_reach_35 rfl ?_
          refine J_iload C iX9_reach_36 rfl ?_
          refine J_iconst 1 C iX9_reach_38 rfl ?_
          refine J_iadd C iX9_reach_39 ?_
          rw [show (nI j) + 1 = nI (j + 1) from nI_add _ _]
          refine J_imul C iX9_reach_40 ?_
          rw [show (2 * (nI (j + 1)) : Int32) = nI (2 * (j + 1)) from pk_mul 2 (j + 1)]
          refine J_aload_n C iX9_reach_41 rfl rfl ?_
          refine J_iload_n C iX9_reach_42 rfl rfl ?_
          refine J_iload_n C iX9_reach_43 rfl rfl ?_
          refine J_cVb (As := [.int (nI i), .int (nI k)]) (st := .int (nI (2 * (j + 1))) :: []) (rc2 := 0) (rs2 := 0) (w0 := (wSim Z s n m hA lA oA tA eA (fun j => some (rw j)) (fun j => some (lr j)) fo ft fe dy ca ++ wRw Z n rw p h f t)) (q0 := 0) C iX9_reach_44 lm_X9_42 yc_X9_tall yv_X9_tall (c_X9_tall (i := i) (k := k) ok (by omega) (by omega)) rfl rfl rfl [] [] (by simp only [List.append_assoc, List.append_nil, List.nil_append]) rfl ⟨Nat.le_of_ble_eq_true rfl, Nat.le_of_ble_eq_true rfl⟩ (Nat.le_of_ble_eq_true rfl) (Nat.zero_add _).symm (Nat.zero_add _).symm ?_
          rintro _ _ ⟨rfl, rfl⟩
          refine J_st (.int (nI (tlN h f t i k)) :: .int (nI (2 * (j + 1))) :: []) rfl ?_
          refine J_ws (wSim Z s n m hA lA oA tA eA (fun j => some (rw j)) (fun j => some (lr j)) fo ft fe dy ca ++ wRw Z n rw p h f t) (by simp only [List.append_assoc, List.append_nil, List.nil_append]) ?_
          refine J_iload_n C iX9_reach_47 rfl rfl ?_
          refine J_imul C iX9_reach_48 ?_
          rw [show ((nI (tlN h f t i k)) * (nI (spN k)) : Int32) = nI ((tlN h f t i k) * (spN k)) from pk_mul (tlN h f t i k) (spN k)]
          refine J_icmpgt 58 C iX9_reach_49 rfl (fun h49 => absurd h49 (nI_nlt (a := tlN h f t i k * spN k) (b := 2 * (j + 1)) (by omega) (by omega))) (fun h49 => ?_)
          refine J_iinc ((nI j) + 1) [(4, .int ((nI j) + 1)), (3, .int (nI (spN k))), (2, .int (nI k)), (1, .int (nI i)), (0, .ref s)] C iX9_reach_52 rfl rfl (by decide) rfl ?_
          rw [show (nI j) + 1 = nI (j + 1) from nI_add _ _]
          refine J_goto 35 C iX9_reach_55 rfl ?_
          refine J_lvm [(4, .int (nI (j + 1))), (3, .int (nI (spN k))), (2, .int (nI k)), (1, .int (nI i)), (0, .ref s)] rfl ?_
          exact ihj
    · refine J_icmple 14 C iX9_reach_9 rfl (fun h9 => absurd h9 (nI_ge (a := 18) (b := k) (by omega) (by omega))) (fun h9 => ?_)
      refine J_iconst 0 C iX9_reach_12 rfl ?_
      exact J_iret C E iX9_reach_13 ⟨congrArg (fun z => some (Value.int z)) (show (0 : Int32) = nI (rcN h f t i k) by rw [rcN, if_pos (by omega)]; rfl), rfl⟩

set_option maxRecDepth 100000 in
set_option maxHeartbeats 4000000 in
theorem c_X9_shades {Z : GZ} {l : Launch} {s n m hA lA oA tA eA : Nat} {rw lr p h f t : Nat → Nat} {fo ft fe : Nat → Option Nat} {dy ca : Int32} {b a k : Nat} (ok : SnOk n p h f t) (hb : b < n) (ha : a < n) (hk : k < 24) : Ct Z l yX9_shades cX9_shades 6 (some .boolean) (rmK 2) [.ref s, .int (nI b), .int (nI a), .int (nI k)] (wSim Z s n m hA lA oA tA eA (fun j => some (rw j)) (fun j => some (lr j)) fo ft fe dy ca ++ wRw Z n rw p h f t) (fun v w => v = some (.int (b2i (shB p h f t b a k))) ∧ w = (wSim Z s n m hA lA oA tA eA (fun j => some (rw j)) (fun j => some (lr j)) fo ft fe dy ca ++ wRw Z n rw p h f t)) := by
  refine Ct.ofJ (own := RX9) (nm := "shades") (lv0 := [(0, .ref s), (1, .int (nI b)), (2, .int (nI a)), (3, .int (nI k))]) (by decide) rfl rfl (Nat.le_of_ble_eq_true rfl) rfl (fun X hXl C E => ?_)
  subst hXl
  refine J_room (rc2 := 0) (rs2 := 0) (Nat.le_refl _) (Nat.le_refl _) ?_
  have hn12 := ok.1
  have hts := ts_le ok hb hk
  have htb := tlN_le ok hb k
  have hta := tlN_le ok ha k
  have hpb := (ok.2 b hb).1
  have hpa := (ok.2 a ha).1
  refine J_iload_n C iX9_shades_0 rfl rfl ?_
  refine J_bipush 12 C iX9_shades_1 rfl ?_
  by_cases h12 : k < 12
  · refine J_icmpge 26 C iX9_shades_3 rfl (fun h3 => absurd h3 (nI_ge (a := k) (b := 12) (by omega) (by omega))) (fun h3 => ?_)
    refine J_aload_n C iX9_shades_6 rfl rfl ?_
    refine J_get (.ref hA) 0 C iX9_shades_7 gf_X9_9 rfl rfl ?_
    refine J_iload_n C iX9_shades_10 rfl rfl ?_
    refine J_aaldA 1 C iX9_shades_11 rfl (vp_in_nI (n := b) (by omega) (by omega)) ?_
    rw [nI_clamp (n := b) (by omega)]
    refine J_st (.ref (rw b) :: []) rfl ?_
    refine J_iconst 0 C iX9_shades_12 rfl ?_
    refine J_iald (n := 4) (f := rowF p h f t b) (((wSim Z s n m hA lA oA tA eA (fun j => some (rw j)) (fun j => some (lr j)) fo ft fe dy ca)).length + b) C iX9_shades_13 (mid_at (A := (wSim Z s n m hA lA oA tA eA (fun j => some (rw j)) (fun j => some (lr j)) fo ft fe dy ca)) (M := wRw Z n rw p h f t) (B := []) (by simp only [List.append_assoc, List.append_nil, List.nil_append]) (wRw_at (by omega))) (vp_in_nI (n := 0) (by decide) (by decide)) ?_
    refine J_st (.int (nI (p b)) :: []) rfl ?_
    refine J_aload_n C iX9_shades_14 rfl rfl ?_
    refine J_get (.ref hA) 0 C iX9_shades_15 gf_X9_9 rfl rfl ?_
    refine J_iload_n C iX9_shades_18 rfl rfl ?_
    refine J_aaldA 1 C iX9_shades_19 rfl (vp_in_nI (n := a) (by omega) (by omega)) ?_
    rw [nI_clamp (n := a) (by omega)]
    refine J_st (.ref (rw a) :: .int (nI (p b)) :: []) rfl ?_
    refine J_iconst 0 C iX9_shades_20 rfl ?_
    refine J_iald (n := 4) (f := rowF p h f t a) (((wSim Z s n m hA lA oA tA eA (fun j => some (rw j)) (fun j => some (lr j)) fo ft fe dy ca)).length + a) C iX9_shades_21 (mid_at (A := (wSim Z s n m hA lA oA tA eA (fun j => some (rw j)) (fun j => some (lr j)) fo ft fe dy ca)) (M := wRw Z n rw p h f t) (B := []) (by simp only [List.append_assoc, List.append_nil, List.nil_append]) (wRw_at (by omega))) (vp_in_nI (n := 0) (by decide) (by decide)) ?_
    refine J_st (.int (nI (p a)) :: .int (nI (p b)) :: []) rfl ?_
    refine J_isub C iX9_shades_22 ?_
    refine J_goto 43 C iX9_shades_23 rfl ?_
    by_cases hd : p a < p b
    · rw [show nI (p b) - nI (p a) = nI (p b - p a) from pk_sub (by omega)]
      refine J_istore [(4, .int (nI (p b - p a))), (0, .ref s), (1, .int (nI b)), (2, .int (nI a)), (3, .int (nI k))] C iX9_shades_43 (by decide) rfl ?_
      refine J_iload C iX9_shades_45 rfl ?_
      refine J_iconst 1 C iX9_shades_47 rfl ?_
      refine J_icmplt 62 C iX9_shades_48 rfl (fun h48 => absurd h48 (nI_nlt (a := (p b - p a)) (b := 1) (by omega) (by omega))) (fun h48 => ?_)
      refine J_iload C iX9_shades_51 rfl ?_
      refine J_aload_n C iX9_shades_53 rfl rfl ?_
      refine J_iload_n C iX9_shades_54 rfl rfl ?_
      refine J_iload_n C iX9_shades_55 rfl rfl ?_
      refine J_cVb (As := [.int (nI b), .int (nI k)]) (st := .int (nI (p b - p a)) :: []) (rc2 := 0) (rs2 := 0) (w0 := (wSim Z s n m hA lA oA tA eA (fun j => some (rw j)) (fun j => some (lr j)) fo ft fe dy ca ++ wRw Z n rw p h f t)) (q0 := 0) C iX9_shades_56 lm_X9_46 yc_X9_reach yv_X9_reach (c_X9_reach (i := b) (k := k) ok (by omega) (by omega)) rfl rfl rfl [] [] (by simp only [List.append_assoc, List.append_nil, List.nil_append]) rfl ⟨Nat.le_of_ble_eq_true rfl, Nat.le_of_ble_eq_true rfl⟩ (Nat.le_of_ble_eq_true rfl) (Nat.zero_add _).symm (Nat.zero_add _).symm ?_
      rintro _ _ ⟨rfl, rfl⟩
      refine J_st (.int (nI (rcN h f t b k)) :: .int (nI (p b - p a)) :: []) rfl ?_
      refine J_ws (wSim Z s n m hA lA oA tA eA (fun j => some (rw j)) (fun j => some (lr j)) fo ft fe dy ca ++ wRw Z n rw p h f t) (by simp only [List.append_assoc, List.append_nil, List.nil_append]) ?_
      by_cases hr : p b - p a ≤ rcN h f t b k
      · obtain ⟨hq1, hq2, hq3, hq4⟩ := rc_pos (by omega) hr
        have hq0 := rc_le ok hb hk
        have hq5 := spN_le hk
        refine J_icmple 64 C iX9_shades_59 rfl (fun h59 => ?_) (fun h59 => absurd (nI_le (a := (p b - p a)) (b := (rcN h f t b k)) (by omega) (by omega)) h59)
        refine J_iload_n C iX9_shades_64 rfl rfl ?_
        refine J_bipush 12 C iX9_shades_65 rfl ?_
        refine J_icmpge 77 C iX9_shades_67 rfl (fun h67 => absurd h67 (nI_ge (a := k) (b := 12) (by omega) (by omega))) (fun h67 => ?_)
        refine J_bipush 12 C iX9_shades_70 rfl ?_
        refine J_iload_n C iX9_shades_72 rfl rfl ?_
        refine J_isub C iX9_shades_73 ?_
        rw [show 12 - (nI k) = nI (12 - k) from pk_sub (a := 12) (b := k) (by omega)]
        refine J_goto 81 C iX9_shades_74 rfl ?_
        rw [show 12 - k = spN k from by unfold spN; split <;> omega]
        refine J_istore [(5, .int (nI (spN k))), (4, .int (nI (p b - p a))), (0, .ref s), (1, .int (nI b)), (2, .int (nI a)), (3, .int (nI k))] C iX9_shades_81 (by decide) rfl ?_
        refine J_aload_n C iX9_shades_83 rfl rfl ?_
        refine J_iload_n C iX9_shades_84 rfl rfl ?_
        refine J_iload_n C iX9_shades_85 rfl rfl ?_
        refine J_cVb (As := [.int (nI b), .int (nI k)]) (st := []) (rc2 := 0) (rs2 := 0) (w0 := (wSim Z s n m hA lA oA tA eA (fun j => some (rw j)) (fun j => some (lr j)) fo ft fe dy ca ++ wRw Z n rw p h f t)) (q0 := 0) C iX9_shades_86 lm_X9_42 yc_X9_tall yv_X9_tall (c_X9_tall (i := b) (k := k) ok (by omega) (by omega)) rfl rfl rfl [] [] (by simp only [List.append_assoc, List.append_nil, List.nil_append]) rfl ⟨Nat.le_of_ble_eq_true rfl, Nat.le_of_ble_eq_true rfl⟩ (Nat.le_of_ble_eq_true rfl) (Nat.zero_add _).symm (Nat.zero_add _).symm ?_
        rintro _ _ ⟨rfl, rfl⟩
        refine J_st (.int (nI (tlN h f t b k)) :: []) rfl ?_
        refine J_ws (wSim Z s n m hA lA oA tA eA (fun j => some (rw j)) (fun j => some (lr j)) fo ft fe dy ca ++ wRw Z n rw p h f t) (by simp only [List.append_assoc, List.append_nil, List.nil_append]) ?_
        refine J_iload C iX9_shades_89 rfl ?_
        refine J_imul C iX9_shades_91 ?_
        rw [show ((nI (tlN h f t b k)) * (nI (spN k)) : Int32) = nI ((tlN h f t b k) * (spN k)) from pk_mul (tlN h f t b k) (spN k)]
        refine J_iconst 2 C iX9_shades_92 rfl ?_
        refine J_iload C iX9_shades_93 rfl ?_
        refine J_imul C iX9_shades_95 ?_
        rw [show (2 * (nI (p b - p a)) : Int32) = nI (2 * (p b - p a)) from pk_mul 2 (p b - p a)]
        refine J_isub C iX9_shades_96 ?_
        rw [show (nI ((tlN h f t b k) * (spN k))) - (nI (2 * (p b - p a))) = nI (tlN h f t b k * spN k - 2 * (p b - p a)) from pk_sub (by omega)]
        refine J_iload C iX9_shades_97 rfl ?_
        refine J_idiv C iX9_shades_99 (nI_ne0 hq2 (by omega)) ?_
        rw [show ((nI (tlN h f t b k * spN k - 2 * (p b - p a))) / (nI (spN k)) : Int32) = nI ((tlN h f t b k * spN k - 2 * (p b - p a)) / (spN k)) from pk_div (a := (tlN h f t b k * spN k - 2 * (p b - p a))) (d := (spN k)) (by omega) (by omega) (by omega)]
        refine J_aload_n C iX9_shades_100 rfl rfl ?_
        refine J_iload_n C iX9_shades_101 rfl rfl ?_
        refine J_iload_n C iX9_shades_102 rfl rfl ?_
        refine J_cVb (As := [.int (nI a), .int (nI k)]) (st := .int (nI ((tlN h f t b k * spN k - 2 * (p b - p a)) / (spN k))) :: []) (rc2 := 0) (rs2 := 0) (w0 := (wSim Z s n m hA lA oA tA eA (fun j => some (rw j)) (fun j => some (lr j)) fo ft fe dy ca ++ wRw Z n rw p h f t)) (q0 := 0) C iX9_shades_103 lm_X9_42 yc_X9_tall yv_X9_tall (c_X9_tall (i := a) (k := k) ok (by omega) (by omega)) rfl rfl rfl [] [] (by simp only [List.append_assoc, List.append_nil, List.nil_append]) rfl ⟨Nat.le_of_ble_eq_true rfl, Nat.le_of_ble_eq_true rfl⟩ (Nat.le_of_ble_eq_true rfl) (Nat.zero_add _).symm (Nat.zero_add _).symm ?_
        rintro _ _ ⟨rfl, rfl⟩
        refine J_st (.int (nI (tlN h f t a k)) :: .int (nI ((tlN h f t b k * spN k - 2 * (p b - p a)) / (spN k))) :: []) rfl ?_
        refine J_ws (wSim Z s n m hA lA oA tA eA (fun j => some (rw j)) (fun j => some (lr j)) fo ft fe dy ca ++ wRw Z n rw p h f t) (by simp only [List.append_assoc, List.append_nil, List.nil_append]) ?_
        have hq6 : (tlN h f t b k * spN k - 2 * (p b - p a)) / spN k ≤ 360 := Nat.le_trans (Nat.div_le_self _ _) (by omega)
        by_cases ht : tlN h f t a k < (tlN h f t b k * spN k - 2 * (p b - p a)) / spN k
        · refine J_icmple 113 C iX9_shades_106 rfl (fun h106 => absurd h106 (nI_ge (a := (tlN h f t a k)) (b := ((tlN h f t b k * spN k - 2 * (p b - p a)) / (spN k))) (by omega) (by omega))) (fun h106 => ?_)
          refine J_iconst 1 C iX9_shades_109 rfl ?_
          refine J_goto 114 C iX9_shades_110 rfl ?_
          exact J_zret C E iX9_shades_114 rfl ⟨congrArg (fun z => some (Value.int z)) (show (1 : Int32) = b2i (shB p h f t b a k) by rw [show shB p h f t b a k = true by rw [shB, if_pos h12, decide_eq_true hd, shD, decide_eq_true hr, decide_eq_true ht]; rfl]; rfl), rfl⟩
        · refine J_icmple 113 C iX9_shades_106 rfl (fun h106 => ?_) (fun h106 => absurd (nI_le (a := ((tlN h f t b k * spN k - 2 * (p b - p a)) / (spN k))) (b := (tlN h f t a k)) (by omega) (by omega)) h106)
          refine J_iconst 0 C iX9_shades_113 rfl ?_
          exact J_zret C E iX9_shades_114 rfl ⟨congrArg (fun z => some (Value.int z)) (show (0 : Int32) = b2i (shB p h f t b a k) by rw [show shB p h f t b a k = false by rw [shB, if_pos h12, decide_eq_true hd, shD, decide_eq_true hr, decide_eq_false ht]; rfl]; rfl), rfl⟩
      · have hq0 := rc_le ok hb hk
        refine J_icmple 64 C iX9_shades_59 rfl (fun h59 => absurd h59 (nI_ge (a := (rcN h f t b k)) (b := (p b - p a)) (by omega) (by omega))) (fun h59 => ?_)
        refine J_iconst 0 C iX9_shades_62 rfl ?_
        exact J_zret C E iX9_shades_63 rfl ⟨congrArg (fun z => some (Value.int z)) (show (0 : Int32) = b2i (shB p h f t b a k) by rw [show shB p h f t b a k = false by rw [shB, if_pos h12, decide_eq_true hd, shD, decide_eq_false hr]; rfl]; rfl), rfl⟩
    · refine J_istore [(4, .int ((nI (p b)) - (nI (p a)))), (0, .ref s), (1, .int (nI b)), (2, .int (nI a)), (3, .int (nI k))] C iX9_shades_43 (by decide) rfl ?_
      refine J_iload C iX9_shades_45 rfl ?_
      refine J_iconst 1 C iX9_shades_47 rfl ?_
      refine J_icmplt 62 C iX9_shades_48 rfl (fun h48 => ?_) (fun h48 => absurd (sub_lt1 (by omega) (by omega)) h48)
      refine J_iconst 0 C iX9_shades_62 rfl ?_
      exact J_zret C E iX9_shades_63 rfl ⟨congrArg (fun z => some (Value.int z)) (show (0 : Int32) = b2i (shB p h f t b a k) by rw [show shB p h f t b a k = false by rw [shB, if_pos h12, decide_eq_false hd]; rfl]; rfl), rfl⟩
  · refine J_icmpge 26 C iX9_shades_3 rfl (fun h3 => ?_) (fun h3 => absurd (nI_le (a := 12) (b := k) (by omega) (by omega)) h3)
    refine J_aload_n C iX9_shades_26 rfl rfl ?_
    refine J_get (.ref hA) 0 C iX9_shades_27 gf_X9_9 rfl rfl ?_
    refine J_iload_n C iX9_shades_30 rfl rfl ?_
    refine J_aaldA 1 C iX9_shades_31 rfl (vp_in_nI (n := a) (by omega) (by omega)) ?_
    rw [nI_clamp (n := a) (by omega)]
    refine J_st (.ref (rw a) :: []) rfl ?_
    refine J_iconst 0 C iX9_shades_32 rfl ?_
    refine J_iald (n := 4) (f := rowF p h f t a) (((wSim Z s n m hA lA oA tA eA (fun j => some (rw j)) (fun j => some (lr j)) fo ft fe dy ca)).length + a) C iX9_shades_33 (mid_at (A := (wSim Z s n m hA lA oA tA eA (fun j => some (rw j)) (fun j => some (lr j)) fo ft fe dy ca)) (M := wRw Z n rw p h f t) (B := []) (by simp only [List.append_assoc, List.append_nil, List.nil_append]) (wRw_at (by omega))) (vp_in_nI (n := 0) (by decide) (by decide)) ?_
    refine J_st (.int (nI (p a)) :: []) rfl ?_
    refine J_aload_n C iX9_shades_34 rfl rfl ?_
    refine J_get (.ref hA) 0 C iX9_shades_35 gf_X9_9 rfl rfl ?_
    refine J_iload_n C iX9_shades_38 rfl rfl ?_
    refine J_aaldA 1 C iX9_shades_39 rfl (vp_in_nI (n := b) (by omega) (by omega)) ?_
    rw [nI_clamp (n := b) (by omega)]
    refine J_st (.ref (rw b) :: .int (nI (p a)) :: []) rfl ?_
    refine J_iconst 0 C iX9_shades_40 rfl ?_
    refine J_iald (n := 4) (f := rowF p h f t b) (((wSim Z s n m hA lA oA tA eA (fun j => some (rw j)) (fun j => some (lr j)) fo ft fe dy ca)).length + b) C iX9_shades_41 (mid_at (A := (wSim Z s n m hA lA oA tA eA (fun j => some (rw j)) (fun j => some (lr j)) fo ft fe dy ca)) (M := wRw Z n rw p h f t) (B := []) (by simp only [List.append_assoc, List.append_nil, List.nil_append]) (wRw_at (by omega))) (vp_in_nI (n := 0) (by decide) (by decide)) ?_
    refine J_st (.int (nI (p b)) :: .int (nI (p a)) :: []) rfl ?_
    refine J_isub C iX9_shades_42 ?_
    by_cases hd : p b < p a
    · rw [show nI (p a) - nI (p b) = nI (p a - p b) from pk_sub (by omega)]
      refine J_istore [(4, .int (nI (p a - p b))), (0, .ref s), (1, .int (nI b)), (2, .int (nI a)), (3, .int (nI k))] C iX9_shades_43 (by decide) rfl ?_
      refine J_iload C iX9_shades_45 rfl ?_
      refine J_iconst 1 C iX9_shades_47 rfl ?_
      refine J_icmplt 62 C iX9_shades_48 rfl (fun h48 => absurd h48 (nI_nlt (a := (p a - p b)) (b := 1) (by omega) (by omega))) (fun h48 => ?_)
      refine J_iload C iX9_shades_51 rfl ?_
      refine J_aload_n C iX9_shades_53 rfl rfl ?_
      refine J_iload_n C iX9_shades_54 rfl rfl ?_
      refine J_iload_n C iX9_shades_55 rfl rfl ?_
      refine J_cVb (As := [.int (nI b), .int (nI k)]) (st := .int (nI (p a - p b)) :: []) (rc2 := 0) (rs2 := 0) (w0 := (wSim Z s n m hA lA oA tA eA (fun j => some (rw j)) (fun j => some (lr j)) fo ft fe dy ca ++ wRw Z n rw p h f t)) (q0 := 0) C iX9_shades_56 lm_X9_46 yc_X9_reach yv_X9_reach (c_X9_reach (i := b) (k := k) ok (by omega) (by omega)) rfl rfl rfl [] [] (by simp only [List.append_assoc, List.append_nil, List.nil_append]) rfl ⟨Nat.le_of_ble_eq_true rfl, Nat.le_of_ble_eq_true rfl⟩ (Nat.le_of_ble_eq_true rfl) (Nat.zero_add _).symm (Nat.zero_add _).symm ?_
      rintro _ _ ⟨rfl, rfl⟩
      refine J_st (.int (nI (rcN h f t b k)) :: .int (nI (p a - p b)) :: []) rfl ?_
      refine J_ws (wSim Z s n m hA lA oA tA eA (fun j => some (rw j)) (fun j => some (lr j)) fo ft fe dy ca ++ wRw Z n rw p h f t) (by simp only [List.append_assoc, List.append_nil, List.nil_append]) ?_
      by_cases hr : p a - p b ≤ rcN h f t b k
      · obtain ⟨hq1, hq2, hq3, hq4⟩ := rc_pos (by omega) hr
        have hq0 := rc_le ok hb hk
        have hq5 := spN_le hk
        refine J_icmple 64 C iX9_shades_59 rfl (fun h59 => ?_) (fun h59 => absurd (nI_le (a := (p a - p b)) (b := (rcN h f t b k)) (by omega) (by omega)) h59)
        refine J_iload_n C iX9_shades_64 rfl rfl ?_
        refine J_bipush 12 C iX9_shades_65 rfl ?_
        refine J_icmpge 77 C iX9_shades_67 rfl (fun h67 => ?_) (fun h67 => absurd (nI_le (a := 12) (b := k) (by omega) (by omega)) h67)
        refine J_iload_n C iX9_shades_77 rfl rfl ?_
        refine J_bipush 12 C iX9_shades_78 rfl ?_
        refine J_isub C iX9_shades_80 ?_
        rw [show (nI k) - 12 = nI (k - 12) from pk_sub (a := k) (b := 12) (by omega)]
        rw [show k - 12 = spN k from by unfold spN; split <;> omega]
        refine J_istore [(5, .int (nI (spN k))), (4, .int (nI (p a - p b))), (0, .ref s), (1, .int (nI b)), (2, .int (nI a)), (3, .int (nI k))] C iX9_shades_81 (by decide) rfl ?_
        refine J_aload_n C iX9_shades_83 rfl rfl ?_
        refine J_iload_n C iX9_shades_84 rfl rfl ?_
        refine J_iload_n C iX9_shades_85 rfl rfl ?_
        refine J_cVb (As := [.int (nI b), .int (nI k)]) (st := []) (rc2 := 0) (rs2 := 0) (w0 := (wSim Z s n m hA lA oA tA eA (fun j => some (rw j)) (fun j => some (lr j)) fo ft fe dy ca ++ wRw Z n rw p h f t)) (q0 := 0) C iX9_shades_86 lm_X9_42 yc_X9_tall yv_X9_tall (c_X9_tall (i := b) (k := k) ok (by omega) (by omega)) rfl rfl rfl [] [] (by simp only [List.append_assoc, List.append_nil, List.nil_append]) rfl ⟨Nat.le_of_ble_eq_true rfl, Nat.le_of_ble_eq_true rfl⟩ (Nat.le_of_ble_eq_true rfl) (Nat.zero_add _).symm (Nat.zero_add _).symm ?_
        rintro _ _ ⟨rfl, rfl⟩
        refine J_st (.int (nI (tlN h f t b k)) :: []) rfl ?_
        refine J_ws (wSim Z s n m hA lA oA tA eA (fun j => some (rw j)) (fun j => some (lr j)) fo ft fe dy ca ++ wRw Z n rw p h f t) (by simp only [List.append_assoc, List.append_nil, List.nil_append]) ?_
        refine J_iload C iX9_shades_89 rfl ?_
        refine J_imul C iX9_shades_91 ?_
        rw [show ((nI (tlN h f t b k)) * (nI (spN k)) : Int32) = nI ((tlN h f t b k) * (spN k)) from pk_mul (tlN h f t b k) (spN k)]
        refine J_iconst 2 C iX9_shades_92 rfl ?_
        refine J_iload C iX9_shades_93 rfl ?_
        refine J_imul C iX9_shades_95 ?_
        rw [show (2 * (nI (p a - p b)) : Int32) = nI (2 * (p a - p b)) from pk_mul 2 (p a - p b)]
        refine J_isub C iX9_shades_96 ?_
        rw [show (nI ((tlN h f t b k) * (spN k))) - (nI (2 * (p a - p b))) = nI (tlN h f t b k * spN k - 2 * (p a - p b)) from pk_sub (by omega)]
        refine J_iload C iX9_shades_97 rfl ?_
        refine J_idiv C iX9_shades_99 (nI_ne0 hq2 (by omega)) ?_
        rw [show ((nI (tlN h f t b k * spN k - 2 * (p a - p b))) / (nI (spN k)) : Int32) = nI ((tlN h f t b k * spN k - 2 * (p a - p b)) / (spN k)) from pk_div (a := (tlN h f t b k * spN k - 2 * (p a - p b))) (d := (spN k)) (by omega) (by omega) (by omega)]
        refine J_aload_n C iX9_shades_100 rfl rfl ?_
        refine J_iload_n C iX9_shades_101 rfl rfl ?_
        refine J_iload_n C iX9_shades_102 rfl rfl ?_
        refine J_cVb (As := [.int (nI a), .int (nI k)]) (st := .int (nI ((tlN h f t b k * spN k - 2 * (p a - p b)) / (spN k))) :: []) (rc2 := 0) (rs2 := 0) (w0 := (wSim Z s n m hA lA oA tA eA (fun j => some (rw j)) (fun j => some (lr j)) fo ft fe dy ca ++ wRw Z n rw p h f t)) (q0 := 0) C iX9_shades_103 lm_X9_42 yc_X9_tall yv_X9_tall (c_X9_tall (i := a) (k := k) ok (by omega) (by omega)) rfl rfl rfl [] [] (by simp only [List.append_assoc, List.append_nil, List.nil_append]) rfl ⟨Nat.le_of_ble_eq_true rfl, Nat.le_of_ble_eq_true rfl⟩ (Nat.le_of_ble_eq_true rfl) (Nat.zero_add _).symm (Nat.zero_add _).symm ?_
        rintro _ _ ⟨rfl, rfl⟩
        refine J_st (.int (nI (tlN h f t a k)) :: .int (nI ((tlN h f t b k * spN k - 2 * (p a - p b)) / (spN k))) :: []) rfl ?_
        refine J_ws (wSim Z s n m hA lA oA tA eA (fun j => some (rw j)) (fun j => some (lr j)) fo ft fe dy ca ++ wRw Z n rw p h f t) (by simp only [List.append_assoc, List.append_nil, List.nil_append]) ?_
        have hq6 : (tlN h f t b k * spN k - 2 * (p a - p b)) / spN k ≤ 360 := Nat.le_trans (Nat.div_le_self _ _) (by omega)
        by_cases ht : tlN h f t a k < (tlN h f t b k * spN k - 2 * (p a - p b)) / spN k
        · refine J_icmple 113 C iX9_shades_106 rfl (fun h106 => absurd h106 (nI_ge (a := (tlN h f t a k)) (b := ((tlN h f t b k * spN k - 2 * (p a - p b)) / (spN k))) (by omega) (by omega))) (fun h106 => ?_)
          refine J_iconst 1 C iX9_shades_109 rfl ?_
          refine J_goto 114 C iX9_shades_110 rfl ?_
          exact J_zret C E iX9_shades_114 rfl ⟨congrArg (fun z => some (Value.int z)) (show (1 : Int32) = b2i (shB p h f t b a k) by rw [show shB p h f t b a k = true by rw [shB, if_neg h12, decide_eq_true hd, shD, decide_eq_true hr, decide_eq_true ht]; rfl]; rfl), rfl⟩
        · refine J_icmple 113 C iX9_shades_106 rfl (fun h106 => ?_) (fun h106 => absurd (nI_le (a := ((tlN h f t b k * spN k - 2 * (p a - p b)) / (spN k))) (b := (tlN h f t a k)) (by omega) (by omega)) h106)
          refine J_iconst 0 C iX9_shades_113 rfl ?_
          exact J_zret C E iX9_shades_114 rfl ⟨congrArg (fun z => some (Value.int z)) (show (0 : Int32) = b2i (shB p h f t b a k) by rw [show shB p h f t b a k = false by rw [shB, if_neg h12, decide_eq_true hd, shD, decide_eq_true hr, decide_eq_false ht]; rfl]; rfl), rfl⟩
      · have hq0 := rc_le ok hb hk
        refine J_icmple 64 C iX9_shades_59 rfl (fun h59 => absurd h59 (nI_ge (a := (rcN h f t b k)) (b := (p a - p b)) (by omega) (by omega))) (fun h59 => ?_)
        refine J_iconst 0 C iX9_shades_62 rfl ?_
        exact J_zret C E iX9_shades_63 rfl ⟨congrArg (fun z => some (Value.int z)) (show (0 : Int32) = b2i (shB p h f t b a k) by rw [show shB p h f t b a k = false by rw [shB, if_neg h12, decide_eq_true hd, shD, decide_eq_false hr]; rfl]; rfl), rfl⟩
    · refine J_istore [(4, .int ((nI (p a)) - (nI (p b)))), (0, .ref s), (1, .int (nI b)), (2, .int (nI a)), (3, .int (nI k))] C iX9_shades_43 (by decide) rfl ?_
      refine J_iload C iX9_shades_45 rfl ?_
      refine J_iconst 1 C iX9_shades_47 rfl ?_
      refine J_icmplt 62 C iX9_shades_48 rfl (fun h48 => ?_) (fun h48 => absurd (sub_lt1 (by omega) (by omega)) h48)
      refine J_iconst 0 C iX9_shades_62 rfl ?_
      exact J_zret C E iX9_shades_63 rfl ⟨congrArg (fun z => some (Value.int z)) (show (0 : Int32) = b2i (shB p h f t b a k) by rw [show shB p h f t b a k = false by rw [shB, if_neg h12, decide_eq_false hd]; rfl]; rfl), rfl⟩

set_option maxRecDepth 100000 in
set_option maxHeartbeats 4000000 in
theorem c_X9_lostTo {Z : GZ} {l : Launch} {s n m hA lA oA tA eA : Nat} {rw lr p h f t : Nat → Nat} {fo ft fe : Nat → Option Nat} {dy ca : Int32} {a b : Nat} (ok : SnOk n p h f t) (ha : a < n) (hb : b < n) : Ct Z l yX9_lostTo cX9_lostTo 5 (some .int) (rmK 3) [.ref s, .int (nI a), .int (nI b)] (wSim Z s n m hA lA oA tA eA (fun j => some (rw j)) (fun j => some (lr j)) fo ft fe dy ca ++ wRw Z n rw p h f t) (fun v w => v = some (.int (nI (ltN p h f t a b))) ∧ w = (wSim Z s n m hA lA oA tA eA (fun j => some (rw j)) (fun j => some (lr j)) fo ft fe dy ca ++ wRw Z n rw p h f t)) := by
  refine Ct.ofJ (own := RX9) (nm := "lostTo") (lv0 := [(0, .ref s), (1, .int (nI a)), (2, .int (nI b))]) (by decide) rfl rfl (Nat.le_of_ble_eq_true rfl) rfl (fun X hXl C E => ?_)
  subst hXl
  refine J_room (rc2 := 0) (rs2 := 0) (Nat.le_refl _) (Nat.le_refl _) ?_
  have hn12 := ok.1
  refine J_iconst 0 C iX9_lostTo_0 rfl ?_
  refine J_istore_n [(3, .int 0), (0, .ref s), (1, .int (nI a)), (2, .int (nI b))] C iX9_lostTo_1 rfl (by decide) rfl ?_
  refine J_iconst 0 C iX9_lostTo_2 rfl ?_
  refine J_istore [(4, .int 0), (3, .int 0), (0, .ref s), (1, .int (nI a)), (2, .int (nI b))] C iX9_lostTo_3 (by decide) rfl ?_
  refine J_lvm [(4, .int (nI 0)), (3, .int (nI (cnN (fun k => shB p h f t b a k) 0))), (2, .int (nI b)), (1, .int (nI a)), (0, .ref s)] rfl ?_
  refine J_for (fun k => [(4, .int (nI k)), (3, .int (nI (cnN (fun k => shB p h f t b a k) k))), (2, .int (nI b)), (1, .int (nI a)), (0, .ref s)]) (fun k => (wSim Z s n m hA lA oA tA eA (fun j => some (rw j)) (fun j => some (lr j)) fo ft fe dy ca ++ wRw Z n rw p h f t)) 24 0 (by omega) ?_ (fun k hk0 hk ih => ?_)
  · refine J_iload C iX9_lostTo_5 rfl ?_
    refine J_bipush 24 C iX9_lostTo_7 rfl ?_
    refine J_icmpge 37 C iX9_lostTo_9 rfl (fun h9 => ?_) (fun h9 => absurd (by decide) h9)
    refine J_iload_n C iX9_lostTo_37 rfl rfl ?_
    exact J_iret C E iX9_lostTo_38 ⟨rfl, rfl⟩
  · refine J_iload C iX9_lostTo_5 rfl ?_
    refine J_bipush 24 C iX9_lostTo_7 rfl ?_
    refine J_icmpge 37 C iX9_lostTo_9 rfl (fun h9 => absurd h9 (nI_ge (a := k) (b := 24) (by omega) (by omega))) (fun h9 => ?_)
    refine J_iload_n C iX9_lostTo_12 rfl rfl ?_
    refine J_aload_n C iX9_lostTo_13 rfl rfl ?_
    refine J_iload_n C iX9_lostTo_14 rfl rfl ?_
    refine J_iload_n C iX9_lostTo_15 rfl rfl ?_
    refine J_iload C iX9_lostTo_16 rfl ?_
    refine J_cVb (As := [.int (nI b), .int (nI a), .int (nI k)]) (st := .int (nI (cnN (fun k => shB p h f t b a k) k)) :: []) (rc2 := 0) (rs2 := 0) (w0 := (wSim Z s n m hA lA oA tA eA (fun j => some (rw j)) (fun j => some (lr j)) fo ft fe dy ca ++ wRw Z n rw p h f t)) (q0 := 0) C iX9_lostTo_18 lm_X9_49 yc_X9_shades yv_X9_shades (c_X9_shades (b := b) (a := a) (k := k) ok (by omega) (by omega) (by omega)) rfl rfl rfl [] [] (by simp only [List.append_assoc, List.append_nil, List.nil_append]) rfl ⟨Nat.le_of_ble_eq_true rfl, Nat.le_of_ble_eq_true rfl⟩ (Nat.le_of_ble_eq_true rfl) (Nat.zero_add _).symm (Nat.zero_add _).symm ?_
    rintro _ _ ⟨rfl, rfl⟩
    refine J_st (.int (b2i (shB p h f t b a k)) :: .int (nI (cnN (fun k => shB p h f t b a k) k)) :: []) rfl ?_
    refine J_ws (wSim Z s n m hA lA oA tA eA (fun j => some (rw j)) (fun j => some (lr j)) fo ft fe dy ca ++ wRw Z n rw p h f t) (by simp only [List.append_assoc, List.append_nil, List.nil_append]) ?_
    refine J_ifeqb 28 C iX9_lostTo_21 rfl (fun h21 => ?_) (fun h21 => ?_)
    · refine J_iconst 0 C iX9_lostTo_28 rfl ?_
      refine J_iadd C iX9_lostTo_29 ?_
      rw [show (nI (cnN (fun k => shB p h f t b a k) k)) + 0 = nI ((cnN (fun k => shB p h f t b a k) k) + 0) from nI_add _ _]
      refine J_istore_n [(3, .int (nI ((cnN (fun k => shB p h f t b a k) k) + 0))), (4, .int (nI k)), (2, .int (nI b)), (1, .int (nI a)), (0, .ref s)] C iX9_lostTo_30 rfl (by decide) rfl ?_
      refine J_iinc ((nI k) + 1) [(4, .int ((nI k) + 1)), (3, .int (nI ((cnN (fun k => shB p h f t b a k) k) + 0))), (2, .int (nI b)), (1, .int (nI a)), (0, .ref s)] C iX9_lostTo_31 rfl rfl (by decide) rfl ?_
      rw [show (nI k) + 1 = nI (k + 1) from nI_add _ _]
      refine J_goto 5 C iX9_lostTo_34 rfl ?_
      refine J_lvm [(4, .int (nI (k + 1))), (3, .int (nI ((cnN (fun k => shB p h f t b a k) k) + 0))), (2, .int (nI b)), (1, .int (nI a)), (0, .ref s)] rfl ?_
      rw [cnN, if_neg (by rw [h21]; exact Bool.false_ne_true)] at ih
      exact ih
    · refine J_iconst 1 C iX9_lostTo_24 rfl ?_
      refine J_goto 29 C iX9_lostTo_25 rfl ?_
      refine J_iadd C iX9_lostTo_29 ?_
      rw [show (nI (cnN (fun k => shB p h f t b a k) k)) + 1 = nI ((cnN (fun k => shB p h f t b a k) k) + 1) from nI_add _ _]
      refine J_istore_n [(3, .int (nI ((cnN (fun k => shB p h f t b a k) k) + 1))), (4, .int (nI k)), (2, .int (nI b)), (1, .int (nI a)), (0, .ref s)] C iX9_lostTo_30 rfl (by decide) rfl ?_
      refine J_iinc ((nI k) + 1) [(4, .int ((nI k) + 1)), (3, .int (nI ((cnN (fun k => shB p h f t b a k) k) + 1))), (2, .int (nI b)), (1, .int (nI a)), (0, .ref s)] C iX9_lostTo_31 rfl rfl (by decide) rfl ?_
      rw [show (nI k) + 1 = nI (k + 1) from nI_add _ _]
      refine J_goto 5 C iX9_lostTo_34 rfl ?_
      refine J_lvm [(4, .int (nI (k + 1))), (3, .int (nI ((cnN (fun k => shB p h f t b a k) k) + 1))), (2, .int (nI b)), (1, .int (nI a)), (0, .ref s)] rfl ?_
      rw [cnN, if_pos h21] at ih
      exact ih

set_option maxRecDepth 100000 in
set_option maxHeartbeats 4000000 in
theorem c_X9_shadedBy {Z : GZ} {l : Launch} {s n m hA lA oA tA eA : Nat} {rw lr p h f t : Nat → Nat} {fo ft fe : Nat → Option Nat} {dy ca : Int32} {a k : Nat} (ok : SnOk n p h f t) (ha : a < n) (hk : k < 24) : Ct Z l yX9_shadedBy cX9_shadedBy 7 (some .int) (rmK 3) [.ref s, .int (nI a), .int (nI k)] (wSim Z s n m hA lA oA tA eA (fun j => some (rw j)) (fun j => some (lr j)) fo ft fe dy ca ++ wRw Z n rw p h f t) (fun v w => v = some (.int (opI (nrN p h f t a k n).1)) ∧ w = (wSim Z s n m hA lA oA tA eA (fun j => some (rw j)) (fun j => some (lr j)) fo ft fe dy ca ++ wRw Z n rw p h f t)) := by
  refine Ct.ofJ (own := RX9) (nm := "shadedBy") (lv0 := [(0, .ref s), (1, .int (nI a)), (2, .int (nI k))]) (by decide) rfl rfl (Nat.le_of_ble_eq_true rfl) rfl (fun X hXl C E => ?_)
  subst hXl
  refine J_room (rc2 := 0) (rs2 := 0) (Nat.le_refl _) (Nat.le_refl _) ?_
  have hn12 := ok.1
  have hpa := (ok.2 a ha).1
  refine J_iconst (-1) C iX9_shadedBy_0 rfl ?_
  refine J_istore_n [(3, .int (-1)), (0, .ref s), (1, .int (nI a)), (2, .int (nI k))] C iX9_shadedBy_1 rfl (by decide) rfl ?_
  refine J_bipush 100 C iX9_shadedBy_2 rfl ?_
  refine J_istore [(4, .int 100), (3, .int (-1)), (0, .ref s), (1, .int (nI a)), (2, .int (nI k))] C iX9_shadedBy_4 (by decide) rfl ?_
  refine J_iconst 0 C iX9_shadedBy_6 rfl ?_
  refine J_istore [(5, .int 0), (4, .int 100), (3, .int (-1)), (0, .ref s), (1, .int (nI a)), (2, .int (nI k))] C iX9_shadedBy_7 (by decide) rfl ?_
  refine J_lvm [(5, .int (nI 0)), (4, .int (nI (nrN p h f t a k 0).2)), (3, .int (opI (nrN p h f t a k 0).1)), (2, .int (nI k)), (1, .int (nI a)), (0, .ref s)] rfl ?_
  refine J_for (fun b => [(5, .int (nI b)), (4, .int (nI (nrN p h f t a k b).2)), (3, .int (opI (nrN p h f t a k b).1)), (2, .int (nI k)), (1, .int (nI a)), (0, .ref s)]) (fun b => (wSim Z s n m hA lA oA tA eA (fun j => some (rw j)) (fun j => some (lr j)) fo ft fe dy ca ++ wRw Z n rw p h f t)) n 0 (by omega) ?_ (fun b hb0 hb ihb => ?_)
  · refine J_iload C iX9_shadedBy_9 rfl ?_
    refine J_aload_n C iX9_shadedBy_11 rfl rfl ?_
    refine J_get (.ref hA) 0 C iX9_shadedBy_12 gf_X9_9 rfl rfl ?_
    refine J_alenN (t0 := 6) 1 C iX9_shadedBy_15 rfl rfl ?_
    refine J_icmpge 83 C iX9_shadedBy_16 rfl (fun h16 => ?_) (fun h16 => absurd (nI_le (a := n) (b := n) (by omega) (by omega)) h16)
    refine J_iload_n C iX9_shadedBy_83 rfl rfl ?_
    exact J_iret C E iX9_shadedBy_84 ⟨rfl, rfl⟩
  · have hpb := (ok.2 b hb).1
    have hnr := nrN_le p h f t a k b
    refine J_iload C iX9_shadedBy_9 rfl ?_
    refine J_aload_n C iX9_shadedBy_11 rfl rfl ?_
    refine J_get (.ref hA) 0 C iX9_shadedBy_12 gf_X9_9 rfl rfl ?_
    refine J_alenN (t0 := 6) 1 C iX9_shadedBy_15 rfl rfl ?_
    refine J_icmpge 83 C iX9_shadedBy_16 rfl (fun h16 => absurd h16 (nI_ge (a := b) (b := n) (by omega) (by omega))) (fun h16 => ?_)
    refine J_aload_n C iX9_shadedBy_19 rfl rfl ?_
    refine J_get (.ref hA) 0 C iX9_shadedBy_20 gf_X9_9 rfl rfl ?_
    refine J_iload C iX9_shadedBy_23 rfl ?_
    refine J_aaldA 1 C iX9_shadedBy_25 rfl (vp_in_nI (n := b) (by omega) (by omega)) ?_
    rw [nI_clamp (n := b) (by omega)]
    refine J_st (.ref (rw b) :: []) rfl ?_
    refine J_iconst 0 C iX9_shadedBy_26 rfl ?_
    refine J_iald (n := 4) (f := rowF p h f t b) (((wSim Z s n m hA lA oA tA eA (fun j => some (rw j)) (fun j => some (lr j)) fo ft fe dy ca)).length + b) C iX9_shadedBy_27 (mid_at (A := (wSim Z s n m hA lA oA tA eA (fun j => some (rw j)) (fun j => some (lr j)) fo ft fe dy ca)) (M := wRw Z n rw p h f t) (B := []) (by simp only [List.append_assoc, List.append_nil, List.nil_append]) (wRw_at (by omega))) (vp_in_nI (n := 0) (by decide) (by decide)) ?_
    refine J_st (.int (nI (p b)) :: []) rfl ?_
    refine J_aload_n C iX9_shadedBy_28 rfl rfl ?_
    refine J_get (.ref hA) 0 C iX9_shadedBy_29 gf_X9_9 rfl rfl ?_
    refine J_iload_n C iX9_shadedBy_32 rfl rfl ?_
    refine J_aaldA 1 C iX9_shadedBy_33 rfl (vp_in_nI (n := a) (by omega) (by omega)) ?_
    rw [nI_clamp (n := a) (by omega)]
    refine J_st (.ref (rw a) :: .int (nI (p b)) :: []) rfl ?_
    refine J_iconst 0 C iX9_shadedBy_34 rfl ?_
    refine J_iald (n := 4) (f := rowF p h f t a) (((wSim Z s n m hA lA oA tA eA (fun j => some (rw j)) (fun j => some (lr j)) fo ft fe dy ca)).length + a) C iX9_shadedBy_35 (mid_at (A := (wSim Z s n m hA lA oA tA eA (fun j => some (rw j)) (fun j => some (lr j)) fo ft fe dy ca)) (M := wRw Z n rw p h f t) (B := []) (by simp only [List.append_assoc, List.append_nil, List.nil_append]) (wRw_at (by omega))) (vp_in_nI (n := 0) (by decide) (by decide)) ?_
    refine J_st (.int (nI (p a)) :: .int (nI (p b)) :: []) rfl ?_
    refine J_isub C iX9_shadedBy_36 ?_
    by_cases hle : p a ≤ p b
    · rw [show nI (p b) - nI (p a) = nI (p b - p a) from pk_sub hle]
      refine J_istore [(6, .int (nI (p b - p a))), (5, .int (nI b)), (4, .int (nI (nrN p h f t a k b).2)), (3, .int (opI (nrN p h f t a k b).1)), (2, .int (nI k)), (1, .int (nI a)), (0, .ref s)] C iX9_shadedBy_37 (by decide) rfl ?_
      refine J_iload C iX9_shadedBy_39 rfl ?_
      refine J_ifge 49 C iX9_shadedBy_41 rfl (fun h41 => ?_) (fun h41 => absurd (nI_pos' (n := (p b - p a)) (by omega)) h41)
      rw [show p b - p a = awN p a b from by rw [awN, if_pos hle]]
      have haw : awN p a b < 100 := by unfold awN; split <;> omega
      refine J_aload_n C iX9_shadedBy_49 rfl rfl ?_
      refine J_iload C iX9_shadedBy_50 rfl ?_
      refine J_iload_n C iX9_shadedBy_52 rfl rfl ?_
      refine J_iload_n C iX9_shadedBy_53 rfl rfl ?_
      refine J_cVb (As := [.int (nI b), .int (nI a), .int (nI k)]) (st := []) (rc2 := 0) (rs2 := 0) (w0 := (wSim Z s n m hA lA oA tA eA (fun j => some (rw j)) (fun j => some (lr j)) fo ft fe dy ca ++ wRw Z n rw p h f t)) (q0 := 0) C iX9_shadedBy_54 lm_X9_49 yc_X9_shades yv_X9_shades (c_X9_shades (b := b) (a := a) (k := k) ok (by omega) (by omega) (by omega)) rfl rfl rfl [] [] (by simp only [List.append_assoc, List.append_nil, List.nil_append]) rfl ⟨Nat.le_of_ble_eq_true rfl, Nat.le_of_ble_eq_true rfl⟩ (Nat.le_of_ble_eq_true rfl) (Nat.zero_add _).symm (Nat.zero_add _).symm ?_
      rintro _ _ ⟨rfl, rfl⟩
      refine J_st (.int (b2i (shB p h f t b a k)) :: []) rfl ?_
      refine J_ws (wSim Z s n m hA lA oA tA eA (fun j => some (rw j)) (fun j => some (lr j)) fo ft fe dy ca ++ wRw Z n rw p h f t) (by simp only [List.append_assoc, List.append_nil, List.nil_append]) ?_
      refine J_ifeqb 77 C iX9_shadedBy_57 rfl (fun h57 => ?_) (fun h57 => ?_)
      · refine J_iinc ((nI b) + 1) [(5, .int ((nI b) + 1)), (6, .int (nI (awN p a b))), (4, .int (nI (nrN p h f t a k b).2)), (3, .int (opI (nrN p h f t a k b).1)), (2, .int (nI k)), (1, .int (nI a)), (0, .ref s)] C iX9_shadedBy_77 rfl rfl (by decide) rfl ?_
        rw [show (nI b) + 1 = nI (b + 1) from nI_add _ _]
        refine J_goto 9 C iX9_shadedBy_80 rfl ?_
        refine J_lvm [(5, .int (nI (b + 1))), (4, .int (nI (nrN p h f t a k b).2)), (3, .int (opI (nrN p h f t a k b).1)), (2, .int (nI k)), (1, .int (nI a)), (0, .ref s)] rfl ?_
        rw [nrN, if_neg (fun q => by rw [h57] at q; exact Bool.false_ne_true q.1)] at ihb
        exact ihb
      · refine J_iload C iX9_shadedBy_60 rfl ?_
        refine J_iload C iX9_shadedBy_62 rfl ?_
        by_cases hs64 : (awN p a b) < ((nrN p h f t a k b).2)
        · refine J_icmplt 70 C iX9_shadedBy_64 rfl (fun h64 => ?_) (fun h64 => absurd (nI_lt (a := (awN p a b)) (b := (nrN p h f t a k b).2) (by omega) (by omega)) h64)
          refine J_iload C iX9_shadedBy_70 rfl ?_
          refine J_istore_n [(3, .int (nI b)), (6, .int (nI (awN p a b))), (5, .int (nI b)), (4, .int (nI (nrN p h f t a k b).2)), (2, .int (nI k)), (1, .int (nI a)), (0, .ref s)] C iX9_shadedBy_72 rfl (by decide) rfl ?_
          refine J_iload C iX9_shadedBy_73 rfl ?_
          refine J_istore [(4, .int (nI (awN p a b))), (3, .int (nI b)), (6, .int (nI (awN p a b))), (5, .int (nI b)), (2, .int (nI k)), (1, .int (nI a)), (0, .ref s)] C iX9_shadedBy_75 (by decide) rfl ?_
          refine J_iinc ((nI b) + 1) [(5, .int ((nI b) + 1)), (4, .int (nI (awN p a b))), (3, .int (nI b)), (6, .int (nI (awN p a b))), (2, .int (nI k)), (1, .int (nI a)), (0, .ref s)] C iX9_shadedBy_77 rfl rfl (by decide) rfl ?_
          rw [show (nI b) + 1 = nI (b + 1) from nI_add _ _]
          refine J_goto 9 C iX9_shadedBy_80 rfl ?_
          refine J_lvm [(5, .int (nI (b + 1))), (4, .int (nI (awN p a b))), (3, .int (nI b)), (2, .int (nI k)), (1, .int (nI a)), (0, .ref s)] rfl ?_
          rw [nrN, if_pos ⟨h57, hs64⟩] at ihb
          exact ihb
        · refine J_icmplt 70 C iX9_shadedBy_64 rfl (fun h64 => absurd h64 (nI_nlt (a := (awN p a b)) (b := (nrN p h f t a k b).2) (by omega) (by omega))) (fun h64 => ?_)
          refine J_goto 77 C iX9_shadedBy_67 rfl ?_
          refine J_iinc ((nI b) + 1) [(5, .int ((nI b) + 1)), (6, .int (nI (awN p a b))), (4, .int (nI (nrN p h f t a k b).2)), (3, .int (opI (nrN p h f t a k b).1)), (2, .int (nI k)), (1, .int (nI a)), (0, .ref s)] C iX9_shadedBy_77 rfl rfl (by decide) rfl ?_
          rw [show (nI b) + 1 = nI (b + 1) from nI_add _ _]
          refine J_goto 9 C iX9_shadedBy_80 rfl ?_
          refine J_lvm [(5, .int (nI (b + 1))), (4, .int (nI (nrN p h f t a k b).2)), (3, .int (opI (nrN p h f t a k b).1)), (2, .int (nI k)), (1, .int (nI a)), (0, .ref s)] rfl ?_
          rw [nrN, if_neg (fun q => hs64 q.2)] at ihb
          exact ihb
    · refine J_istore [(6, .int ((nI (p b)) - (nI (p a)))), (5, .int (nI b)), (4, .int (nI (nrN p h f t a k b).2)), (3, .int (opI (nrN p h f t a k b).1)), (2, .int (nI k)), (1, .int (nI a)), (0, .ref s)] C iX9_shadedBy_37 (by decide) rfl ?_
      refine J_iload C iX9_shadedBy_39 rfl ?_
      refine J_ifge 49 C iX9_shadedBy_41 rfl (fun h41 => absurd h41 (sub_nneg (by omega) (by omega))) (fun h41 => ?_)
      refine J_iload C iX9_shadedBy_44 rfl ?_
      refine J_ineg C iX9_shadedBy_46 ?_
      rw [neg_sub_nI (x := p b) (y := p a) (by omega)]
      refine J_istore [(6, .int (nI (p a - p b))), (5, .int (nI b)), (4, .int (nI (nrN p h f t a k b).2)), (3, .int (opI (nrN p h f t a k b).1)), (2, .int (nI k)), (1, .int (nI a)), (0, .ref s)] C iX9_shadedBy_47 (by decide) rfl ?_
      rw [show p a - p b = awN p a b from by rw [awN, if_neg hle]]
      have haw : awN p a b < 100 := by unfold awN; split <;> omega
      refine J_aload_n C iX9_shadedBy_49 rfl rfl ?_
      refine J_iload C iX9_shadedBy_50 rfl ?_
      refine J_iload_n C iX9_shadedBy_52 rfl rfl ?_
      refine J_iload_n C iX9_shadedBy_53 rfl rfl ?_
      refine J_cVb (As := [.int (nI b), .int (nI a), .int (nI k)]) (st := []) (rc2 := 0) (rs2 := 0) (w0 := (wSim Z s n m hA lA oA tA eA (fun j => some (rw j)) (fun j => some (lr j)) fo ft fe dy ca ++ wRw Z n rw p h f t)) (q0 := 0) C iX9_shadedBy_54 lm_X9_49 yc_X9_shades yv_X9_shades (c_X9_shades (b := b) (a := a) (k := k) ok (by omega) (by omega) (by omega)) rfl rfl rfl [] [] (by simp only [List.append_assoc, List.append_nil, List.nil_append]) rfl ⟨Nat.le_of_ble_eq_true rfl, Nat.le_of_ble_eq_true rfl⟩ (Nat.le_of_ble_eq_true rfl) (Nat.zero_add _).symm (Nat.zero_add _).symm ?_
      rintro _ _ ⟨rfl, rfl⟩
      refine J_st (.int (b2i (shB p h f t b a k)) :: []) rfl ?_
      refine J_ws (wSim Z s n m hA lA oA tA eA (fun j => some (rw j)) (fun j => some (lr j)) fo ft fe dy ca ++ wRw Z n rw p h f t) (by simp only [List.append_assoc, List.append_nil, List.nil_append]) ?_
      refine J_ifeqb 77 C iX9_shadedBy_57 rfl (fun h57 => ?_) (fun h57 => ?_)
      · refine J_iinc ((nI b) + 1) [(5, .int ((nI b) + 1)), (6, .int (nI (awN p a b))), (4, .int (nI (nrN p h f t a k b).2)), (3, .int (opI (nrN p h f t a k b).1)), (2, .int (nI k)), (1, .int (nI a)), (0, .ref s)] C iX9_shadedBy_77 rfl rfl (by decide) rfl ?_
        rw [show (nI b) + 1 = nI (b + 1) from nI_add _ _]
        refine J_goto 9 C iX9_shadedBy_80 rfl ?_
        refine J_lvm [(5, .int (nI (b + 1))), (4, .int (nI (nrN p h f t a k b).2)), (3, .int (opI (nrN p h f t a k b).1)), (2, .int (nI k)), (1, .int (nI a)), (0, .ref s)] rfl ?_
        rw [nrN, if_neg (fun q => by rw [h57] at q; exact Bool.false_ne_true q.1)] at ihb
        exact ihb
      · refine J_iload C iX9_shadedBy_60 rfl ?_
        refine J_iload C iX9_shadedBy_62 rfl ?_
        by_cases hs64 : (awN p a b) < ((nrN p h f t a k b).2)
        · refine J_icmplt 70 C iX9_shadedBy_64 rfl (fun h64 => ?_) (fun h64 => absurd (nI_lt (a := (awN p a b)) (b := (nrN p h f t a k b).2) (by omega) (by omega)) h64)
          refine J_iload C iX9_shadedBy_70 rfl ?_
          refine J_istore_n [(3, .int (nI b)), (6, .int (nI (awN p a b))), (5, .int (nI b)), (4, .int (nI (nrN p h f t a k b).2)), (2, .int (nI k)), (1, .int (nI a)), (0, .ref s)] C iX9_shadedBy_72 rfl (by decide) rfl ?_
          refine J_iload C iX9_shadedBy_73 rfl ?_
          refine J_istore [(4, .int (nI (awN p a b))), (3, .int (nI b)), (6, .int (nI (awN p a b))), (5, .int (nI b)), (2, .int (nI k)), (1, .int (nI a)), (0, .ref s)] C iX9_shadedBy_75 (by decide) rfl ?_
          refine J_iinc ((nI b) + 1) [(5, .int ((nI b) + 1)), (4, .int (nI (awN p a b))), (3, .int (nI b)), (6, .int (nI (awN p a b))), (2, .int (nI k)), (1, .int (nI a)), (0, .ref s)] C iX9_shadedBy_77 rfl rfl (by decide) rfl ?_
          rw [show (nI b) + 1 = nI (b + 1) from nI_add _ _]
          refine J_goto 9 C iX9_shadedBy_80 rfl ?_
          refine J_lvm [(5, .int (nI (b + 1))), (4, .int (nI (awN p a b))), (3, .int (nI b)), (2, .int (nI k)), (1, .int (nI a)), (0, .ref s)] rfl ?_
          rw [nrN, if_pos ⟨h57, hs64⟩] at ihb
          exact ihb
        · refine J_icmplt 70 C iX9_shadedBy_64 rfl (fun h64 => absurd h64 (nI_nlt (a := (awN p a b)) (b := (nrN p h f t a k b).2) (by omega) (by omega))) (fun h64 => ?_)
          refine J_goto 77 C iX9_shadedBy_67 rfl ?_
          refine J_iinc ((nI b) + 1) [(5, .int ((nI b) + 1)), (6, .int (nI (awN p a b))), (4, .int (nI (nrN p h f t a k b).2)), (3, .int (opI (nrN p h f t a k b).1)), (2, .int (nI k)), (1, .int (nI a)), (0, .ref s)] C iX9_shadedBy_77 rfl rfl (by decide) rfl ?_
          rw [show (nI b) + 1 = nI (b + 1) from nI_add _ _]
          refine J_goto 9 C iX9_shadedBy_80 rfl ?_
          refine J_lvm [(5, .int (nI (b + 1))), (4, .int (nI (nrN p h f t a k b).2)), (3, .int (opI (nrN p h f t a k b).1)), (2, .int (nI k)), (1, .int (nI a)), (0, .ref s)] rfl ?_
          rw [nrN, if_neg (fun q => hs64 q.2)] at ihb
          exact ihb

set_option maxRecDepth 100000 in
set_option maxHeartbeats 4000000 in
theorem c_X9_lost {Z : GZ} {l : Launch} {s n m hA lA oA tA eA : Nat} {rw lr p h f t : Nat → Nat} {fo ft fe : Nat → Option Nat} {dy ca : Int32} {a : Nat} (ok : SnOk n p h f t) (ha : a < n) : Ct Z l yX9_lost cX9_lost 4 (some .int) (rmK 4) [.ref s, .int (nI a)] (wSim Z s n m hA lA oA tA eA (fun j => some (rw j)) (fun j => some (lr j)) fo ft fe dy ca ++ wRw Z n rw p h f t) (fun v w => v = some (.int (nI (loN p h f t n a))) ∧ w = (wSim Z s n m hA lA oA tA eA (fun j => some (rw j)) (fun j => some (lr j)) fo ft fe dy ca ++ wRw Z n rw p h f t)) := by
  refine Ct.ofJ (own := RX9) (nm := "lost") (lv0 := [(0, .ref s), (1, .int (nI a))]) (by decide) rfl rfl (Nat.le_of_ble_eq_true rfl) rfl (fun X hXl C E => ?_)
  subst hXl
  refine J_room (rc2 := 0) (rs2 := 0) (Nat.le_refl _) (Nat.le_refl _) ?_
  have hn12 := ok.1
  refine J_iconst 0 C iX9_lost_0 rfl ?_
  refine J_istore_n [(2, .int 0), (0, .ref s), (1, .int (nI a))] C iX9_lost_1 rfl (by decide) rfl ?_
  refine J_bipush 6 C iX9_lost_2 rfl ?_
  refine J_istore_n [(3, .int 6), (2, .int 0), (0, .ref s), (1, .int (nI a))] C iX9_lost_4 rfl (by decide) rfl ?_
  refine J_lvm [(3, .int (nI (6 + 0))), (2, .int (nI (cnN (fun k => dkN p h f t n a (6 + k)) 0))), (1, .int (nI a)), (0, .ref s)] rfl ?_
  refine J_for (fun k => [(3, .int (nI (6 + k))), (2, .int (nI (cnN (fun k => dkN p h f t n a (6 + k)) k))), (1, .int (nI a)), (0, .ref s)]) (fun k => (wSim Z s n m hA lA oA tA eA (fun j => some (rw j)) (fun j => some (lr j)) fo ft fe dy ca ++ wRw Z n rw p h f t)) 13 0 (by omega) ?_ (fun k hk0 hk ih => ?_)
  · refine J_iload_n C iX9_lost_5 rfl rfl ?_
    refine J_bipush 19 C iX9_lost_6 rfl ?_
    refine J_icmpge 34 C iX9_lost_8 rfl (fun h8 => ?_) (fun h8 => absurd (nI_le (a := 19) (b := (6 + 13)) (by omega) (by omega)) h8)
    refine J_iload_n C iX9_lost_34 rfl rfl ?_
    exact J_iret C E iX9_lost_35 ⟨rfl, rfl⟩
  · refine J_iload_n C iX9_lost_5 rfl rfl ?_
    refine J_bipush 19 C iX9_lost_6 rfl ?_
    refine J_icmpge 34 C iX9_lost_8 rfl (fun h8 => absurd h8 (nI_ge (a := (6 + k)) (b := 19) (by omega) (by omega))) (fun h8 => ?_)
    refine J_iload_n C iX9_lost_11 rfl rfl ?_
    refine J_aload_n C iX9_lost_12 rfl rfl ?_
    refine J_iload_n C iX9_lost_13 rfl rfl ?_
    refine J_iload_n C iX9_lost_14 rfl rfl ?_
    refine J_cVb (As := [.int (nI a), .int (nI (6 + k))]) (st := .int (nI (cnN (fun k => dkN p h f t n a (6 + k)) k)) :: []) (rc2 := 0) (rs2 := 0) (w0 := (wSim Z s n m hA lA oA tA eA (fun j => some (rw j)) (fun j => some (lr j)) fo ft fe dy ca ++ wRw Z n rw p h f t)) (q0 := 0) C iX9_lost_15 lm_X9_53 yc_X9_shadedBy yv_X9_shadedBy (c_X9_shadedBy (a := a) (k := (6 + k)) ok (by omega) (by omega)) rfl rfl rfl [] [] (by simp only [List.append_assoc, List.append_nil, List.nil_append]) rfl ⟨Nat.le_of_ble_eq_true rfl, Nat.le_of_ble_eq_true rfl⟩ (Nat.le_of_ble_eq_true rfl) (Nat.zero_add _).symm (Nat.zero_add _).symm ?_
    rintro _ _ ⟨rfl, rfl⟩
    refine J_st (.int (opI (nrN p h f t a (6 + k) n).1) :: .int (nI (cnN (fun k => dkN p h f t n a (6 + k)) k)) :: []) rfl ?_
    refine J_ws (wSim Z s n m hA lA oA tA eA (fun j => some (rw j)) (fun j => some (lr j)) fo ft fe dy ca ++ wRw Z n rw p h f t) (by simp only [List.append_assoc, List.append_nil, List.nil_append]) ?_
    cases hdk : dkN p h f t n a (6 + k)
    · refine J_iflt 25 C iX9_lost_18 rfl (fun h18 => ?_) (fun h18 => absurd (op_neg hdk) h18)
      refine J_iconst 0 C iX9_lost_25 rfl ?_
      refine J_iadd C iX9_lost_26 ?_
      rw [show (nI (cnN (fun k => dkN p h f t n a (6 + k)) k)) + 0 = nI ((cnN (fun k => dkN p h f t n a (6 + k)) k) + 0) from nI_add _ _]
      refine J_istore_n [(2, .int (nI ((cnN (fun k => dkN p h f t n a (6 + k)) k) + 0))), (3, .int (nI (6 + k))), (1, .int (nI a)), (0, .ref s)] C iX9_lost_27 rfl (by decide) rfl ?_
      refine J_iinc ((nI (6 + k)) + 1) [(3, .int ((nI (6 + k)) + 1)), (2, .int (nI ((cnN (fun k => dkN p h f t n a (6 + k)) k) + 0))), (1, .int (nI a)), (0, .ref s)] C iX9_lost_28 rfl rfl (by decide) rfl ?_
      rw [show (nI (6 + k)) + 1 = nI ((6 + k) + 1) from nI_add _ _]
      refine J_goto 5 C iX9_lost_31 rfl ?_
      refine J_lvm [(3, .int (nI ((6 + k) + 1))), (2, .int (nI ((cnN (fun k => dkN p h f t n a (6 + k)) k) + 0))), (1, .int (nI a)), (0, .ref s)] rfl ?_
      rw [cnN, if_neg (by rw [hdk]; exact Bool.false_ne_true)] at ih
      exact ih
    · refine J_iflt 25 C iX9_lost_18 rfl (fun h18 => absurd h18 (op_pos hn12 hdk)) (fun h18 => ?_)
      refine J_iconst 1 C iX9_lost_21 rfl ?_
      refine J_goto 26 C iX9_lost_22 rfl ?_
      refine J_iadd C iX9_lost_26 ?_
      rw [show (nI (cnN (fun k => dkN p h f t n a (6 + k)) k)) + 1 = nI ((cnN (fun k => dkN p h f t n a (6 + k)) k) + 1) from nI_add _ _]
      refine J_istore_n [(2, .int (nI ((cnN (fun k => dkN p h f t n a (6 + k)) k) + 1))), (3, .int (nI (6 + k))), (1, .int (nI a)), (0, .ref s)] C iX9_lost_27 rfl (by decide) rfl ?_
      refine J_iinc ((nI (6 + k)) + 1) [(3, .int ((nI (6 + k)) + 1)), (2, .int (nI ((cnN (fun k => dkN p h f t n a (6 + k)) k) + 1))), (1, .int (nI a)), (0, .ref s)] C iX9_lost_28 rfl rfl (by decide) rfl ?_
      rw [show (nI (6 + k)) + 1 = nI ((6 + k) + 1) from nI_add _ _]
      refine J_goto 5 C iX9_lost_31 rfl ?_
      refine J_lvm [(3, .int (nI ((6 + k) + 1))), (2, .int (nI ((cnN (fun k => dkN p h f t n a (6 + k)) k) + 1))), (1, .int (nI a)), (0, .ref s)] rfl ?_
      rw [cnN, if_pos hdk] at ih
      exact ih

set_option maxRecDepth 100000 in
set_option maxHeartbeats 4000000 in
theorem c_X9_cast {Z : GZ} {l : Launch} {s n m hA lA oA tA eA : Nat} {rw lr p h f t : Nat → Nat} {fo ft fe : Nat → Option Nat} {dy ca : Int32} {b : Nat} (ok : SnOk n p h f t) (hb : b < n) : Ct Z l yX9_cast cX9_cast 4 (some .int) (rmK 4) [.ref s, .int (nI b)] (wSim Z s n m hA lA oA tA eA (fun j => some (rw j)) (fun j => some (lr j)) fo ft fe dy ca ++ wRw Z n rw p h f t) (fun v w => v = some (.int (nI (caN p h f t n b))) ∧ w = (wSim Z s n m hA lA oA tA eA (fun j => some (rw j)) (fun j => some (lr j)) fo ft fe dy ca ++ wRw Z n rw p h f t)) := by
  refine Ct.ofJ (own := RX9) (nm := "cast") (lv0 := [(0, .ref s), (1, .int (nI b))]) (by decide) rfl rfl (Nat.le_of_ble_eq_true rfl) rfl (fun X hXl C E => ?_)
  subst hXl
  refine J_room (rc2 := 0) (rs2 := 0) (Nat.le_refl _) (Nat.le_refl _) ?_
  have hn12 := ok.1
  refine J_iconst 0 C iX9_cast_0 rfl ?_
  refine J_istore_n [(2, .int 0), (0, .ref s), (1, .int (nI b))] C iX9_cast_1 rfl (by decide) rfl ?_
  refine J_iconst 0 C iX9_cast_2 rfl ?_
  refine J_istore_n [(3, .int 0), (2, .int 0), (0, .ref s), (1, .int (nI b))] C iX9_cast_3 rfl (by decide) rfl ?_
  refine J_lvm [(3, .int (nI 0)), (2, .int (nI (smN (fun a => ltN p h f t a b) 0))), (1, .int (nI b)), (0, .ref s)] rfl ?_
  refine J_for (fun k => [(3, .int (nI k)), (2, .int (nI (smN (fun a => ltN p h f t a b) k))), (1, .int (nI b)), (0, .ref s)]) (fun k => (wSim Z s n m hA lA oA tA eA (fun j => some (rw j)) (fun j => some (lr j)) fo ft fe dy ca ++ wRw Z n rw p h f t)) n 0 (by omega) ?_ (fun k hk0 hk ih => ?_)
  · refine J_iload_n C iX9_cast_4 rfl rfl ?_
    refine J_aload_n C iX9_cast_5 rfl rfl ?_
    refine J_get (.ref hA) 0 C iX9_cast_6 gf_X9_9 rfl rfl ?_
    refine J_alenN (t0 := 6) 1 C iX9_cast_9 rfl rfl ?_
    refine J_icmpge 28 C iX9_cast_10 rfl (fun h10 => ?_) (fun h10 => absurd (nI_le (a := n) (b := n) (by omega) (by omega)) h10)
    refine J_iload_n C iX9_cast_28 rfl rfl ?_
    exact J_iret C E iX9_cast_29 ⟨rfl, rfl⟩
  · refine J_iload_n C iX9_cast_4 rfl rfl ?_
    refine J_aload_n C iX9_cast_5 rfl rfl ?_
    refine J_get (.ref hA) 0 C iX9_cast_6 gf_X9_9 rfl rfl ?_
    refine J_alenN (t0 := 6) 1 C iX9_cast_9 rfl rfl ?_
    refine J_icmpge 28 C iX9_cast_10 rfl (fun h10 => absurd h10 (nI_ge (a := k) (b := n) (by omega) (by omega))) (fun h10 => ?_)
    refine J_iload_n C iX9_cast_13 rfl rfl ?_
    refine J_aload_n C iX9_cast_14 rfl rfl ?_
    refine J_iload_n C iX9_cast_15 rfl rfl ?_
    refine J_iload_n C iX9_cast_16 rfl rfl ?_
    refine J_cVb (As := [.int (nI k), .int (nI b)]) (st := .int (nI (smN (fun a => ltN p h f t a b) k)) :: []) (rc2 := 0) (rs2 := 0) (w0 := (wSim Z s n m hA lA oA tA eA (fun j => some (rw j)) (fun j => some (lr j)) fo ft fe dy ca ++ wRw Z n rw p h f t)) (q0 := 0) C iX9_cast_17 lm_X9_56 yc_X9_lostTo yv_X9_lostTo (c_X9_lostTo (a := k) (b := b) ok (by omega) (by omega)) rfl rfl rfl [] [] (by simp only [List.append_assoc, List.append_nil, List.nil_append]) rfl ⟨Nat.le_of_ble_eq_true rfl, Nat.le_of_ble_eq_true rfl⟩ (Nat.le_of_ble_eq_true rfl) (Nat.zero_add _).symm (Nat.zero_add _).symm ?_
    rintro _ _ ⟨rfl, rfl⟩
    refine J_st (.int (nI (ltN p h f t k b)) :: .int (nI (smN (fun a => ltN p h f t a b) k)) :: []) rfl ?_
    refine J_ws (wSim Z s n m hA lA oA tA eA (fun j => some (rw j)) (fun j => some (lr j)) fo ft fe dy ca ++ wRw Z n rw p h f t) (by simp only [List.append_assoc, List.append_nil, List.nil_append]) ?_
    refine J_iadd C iX9_cast_20 ?_
    rw [show (nI (smN (fun a => ltN p h f t a b) k)) + (nI (ltN p h f t k b)) = nI ((smN (fun a => ltN p h f t a b) k) + (ltN p h f t k b)) from nI_add _ _]
    refine J_istore_n [(2, .int (nI ((smN (fun a => ltN p h f t a b) k) + (ltN p h f t k b)))), (3, .int (nI k)), (1, .int (nI b)), (0, .ref s)] C iX9_cast_21 rfl (by decide) rfl ?_
    refine J_iinc ((nI k) + 1) [(3, .int ((nI k) + 1)), (2, .int (nI ((smN (fun a => ltN p h f t a b) k) + (ltN p h f t k b)))), (1, .int (nI b)), (0, .ref s)] C iX9_cast_22 rfl rfl (by decide) rfl ?_
    rw [show (nI k) + 1 = nI (k + 1) from nI_add _ _]
    refine J_goto 4 C iX9_cast_25 rfl ?_
    refine J_lvm [(3, .int (nI (k + 1))), (2, .int (nI ((smN (fun a => ltN p h f t a b) k) + (ltN p h f t k b)))), (1, .int (nI b)), (0, .ref s)] rfl ?_
    exact ih

set_option maxRecDepth 100000 in
set_option maxHeartbeats 4000000 in
theorem c_X9_worst {Z : GZ} {l : Launch} {s n m hA lA oA tA eA : Nat} {rw lr p h f t : Nat → Nat} {fo ft fe : Nat → Option Nat} {dy ca : Int32} (ok : SnOk n p h f t) : Ct Z l yX9_worst cX9_worst 3 (some .int) (rmK 5) [.ref s] (wSim Z s n m hA lA oA tA eA (fun j => some (rw j)) (fun j => some (lr j)) fo ft fe dy ca ++ wRw Z n rw p h f t) (fun v w => v = some (.int (nI (mxN (fun a => loN p h f t n a) n))) ∧ w = (wSim Z s n m hA lA oA tA eA (fun j => some (rw j)) (fun j => some (lr j)) fo ft fe dy ca ++ wRw Z n rw p h f t)) := by
  refine Ct.ofJ (own := RX9) (nm := "worst") (lv0 := [(0, .ref s)]) (by decide) rfl rfl (Nat.le_of_ble_eq_true rfl) rfl (fun X hXl C E => ?_)
  subst hXl
  refine J_room (rc2 := 0) (rs2 := 0) (Nat.le_refl _) (Nat.le_refl _) ?_
  have hn12 := ok.1
  refine J_iconst 0 C iX9_worst_0 rfl ?_
  refine J_istore_n [(1, .int 0), (0, .ref s)] C iX9_worst_1 rfl (by decide) rfl ?_
  refine J_iconst 0 C iX9_worst_2 rfl ?_
  refine J_istore_n [(2, .int 0), (1, .int 0), (0, .ref s)] C iX9_worst_3 rfl (by decide) rfl ?_
  refine J_lvm [(2, .int (nI 0)), (1, .int (nI (mxN (fun a => loN p h f t n a) 0))), (0, .ref s)] rfl ?_
  refine J_for (fun k => [(2, .int (nI k)), (1, .int (nI (mxN (fun a => loN p h f t n a) k))), (0, .ref s)]) (fun k => (wSim Z s n m hA lA oA tA eA (fun j => some (rw j)) (fun j => some (lr j)) fo ft fe dy ca ++ wRw Z n rw p h f t)) n 0 (by omega) ?_ (fun k hk0 hk ih => ?_)
  · refine J_iload_n C iX9_worst_4 rfl rfl ?_
    refine J_aload_n C iX9_worst_5 rfl rfl ?_
    refine J_get (.ref hA) 0 C iX9_worst_6 gf_X9_9 rfl rfl ?_
    refine J_alenN (t0 := 6) 1 C iX9_worst_9 rfl rfl ?_
    refine J_icmpge 38 C iX9_worst_10 rfl (fun h10 => ?_) (fun h10 => absurd (nI_le (a := n) (b := n) (by omega) (by omega)) h10)
    refine J_iload_n C iX9_worst_38 rfl rfl ?_
    exact J_iret C E iX9_worst_39 ⟨rfl, rfl⟩
  · have hml := mxN_le (g := fun a => loN p h f t n a) (c := 13) (k := k) (fun i _ => loN_le p h f t n i)
    have hlo := loN_le p h f t n k
    refine J_iload_n C iX9_worst_4 rfl rfl ?_
    refine J_aload_n C iX9_worst_5 rfl rfl ?_
    refine J_get (.ref hA) 0 C iX9_worst_6 gf_X9_9 rfl rfl ?_
    refine J_alenN (t0 := 6) 1 C iX9_worst_9 rfl rfl ?_
    refine J_icmpge 38 C iX9_worst_10 rfl (fun h10 => absurd h10 (nI_ge (a := k) (b := n) (by omega) (by omega))) (fun h10 => ?_)
    refine J_aload_n C iX9_worst_13 rfl rfl ?_
    refine J_iload_n C iX9_worst_14 rfl rfl ?_
    refine J_cVb (As := [.int (nI k)]) (st := []) (rc2 := 0) (rs2 := 0) (w0 := (wSim Z s n m hA lA oA tA eA (fun j => some (rw j)) (fun j => some (lr j)) fo ft fe dy ca ++ wRw Z n rw p h f t)) (q0 := 0) C iX9_worst_15 lm_X9_59 yc_X9_lost yv_X9_lost (c_X9_lost (a := k) ok (by omega)) rfl rfl rfl [] [] (by simp only [List.append_assoc, List.append_nil, List.nil_append]) rfl ⟨Nat.le_of_ble_eq_true rfl, Nat.le_of_ble_eq_true rfl⟩ (Nat.le_of_ble_eq_true rfl) (Nat.zero_add _).symm (Nat.zero_add _).symm ?_
    rintro _ _ ⟨rfl, rfl⟩
    refine J_st (.int (nI (loN p h f t n k)) :: []) rfl ?_
    refine J_ws (wSim Z s n m hA lA oA tA eA (fun j => some (rw j)) (fun j => some (lr j)) fo ft fe dy ca ++ wRw Z n rw p h f t) (by simp only [List.append_assoc, List.append_nil, List.nil_append]) ?_
    refine J_iload_n C iX9_worst_18 rfl rfl ?_
    by_cases hmx : mxN (fun a => loN p h f t n a) k < loN p h f t n k
    · refine J_icmple 30 C iX9_worst_19 rfl (fun h19 => absurd h19 (nI_ge (a := (mxN (fun a => loN p h f t n a) k)) (b := (loN p h f t n k)) (by omega) (by omega))) (fun h19 => ?_)
      refine J_aload_n C iX9_worst_22 rfl rfl ?_
      refine J_iload_n C iX9_worst_23 rfl rfl ?_
      refine J_cVb (As := [.int (nI k)]) (st := []) (rc2 := 0) (rs2 := 0) (w0 := (wSim Z s n m hA lA oA tA eA (fun j => some (rw j)) (fun j => some (lr j)) fo ft fe dy ca ++ wRw Z n rw p h f t)) (q0 := 0) C iX9_worst_24 lm_X9_59 yc_X9_lost yv_X9_lost (c_X9_lost (a := k) ok (by omega)) rfl rfl rfl [] [] (by simp only [List.append_assoc, List.append_nil, List.nil_append]) rfl ⟨Nat.le_of_ble_eq_true rfl, Nat.le_of_ble_eq_true rfl⟩ (Nat.le_of_ble_eq_true rfl) (Nat.zero_add _).symm (Nat.zero_add _).symm ?_
      rintro _ _ ⟨rfl, rfl⟩
      refine J_st (.int (nI (loN p h f t n k)) :: []) rfl ?_
      refine J_ws (wSim Z s n m hA lA oA tA eA (fun j => some (rw j)) (fun j => some (lr j)) fo ft fe dy ca ++ wRw Z n rw p h f t) (by simp only [List.append_assoc, List.append_nil, List.nil_append]) ?_
      refine J_goto 31 C iX9_worst_27 rfl ?_
      refine J_istore_n [(1, .int (nI (loN p h f t n k))), (2, .int (nI k)), (0, .ref s)] C iX9_worst_31 rfl (by decide) rfl ?_
      refine J_iinc ((nI k) + 1) [(2, .int ((nI k) + 1)), (1, .int (nI (loN p h f t n k))), (0, .ref s)] C iX9_worst_32 rfl rfl (by decide) rfl ?_
      rw [show (nI k) + 1 = nI (k + 1) from nI_add _ _]
      refine J_goto 4 C iX9_worst_35 rfl ?_
      refine J_lvm [(2, .int (nI (k + 1))), (1, .int (nI (loN p h f t n k))), (0, .ref s)] rfl ?_
      rw [mxN, if_pos hmx] at ih
      exact ih
    · refine J_icmple 30 C iX9_worst_19 rfl (fun h19 => ?_) (fun h19 => absurd (nI_le (a := (loN p h f t n k)) (b := (mxN (fun a => loN p h f t n a) k)) (by omega) (by omega)) h19)
      refine J_iload_n C iX9_worst_30 rfl rfl ?_
      refine J_istore_n [(1, .int (nI (mxN (fun a => loN p h f t n a) k))), (2, .int (nI k)), (0, .ref s)] C iX9_worst_31 rfl (by decide) rfl ?_
      refine J_iinc ((nI k) + 1) [(2, .int ((nI k) + 1)), (1, .int (nI (mxN (fun a => loN p h f t n a) k))), (0, .ref s)] C iX9_worst_32 rfl rfl (by decide) rfl ?_
      rw [show (nI k) + 1 = nI (k + 1) from nI_add _ _]
      refine J_goto 4 C iX9_worst_35 rfl ?_
      refine J_lvm [(2, .int (nI (k + 1))), (1, .int (nI (mxN (fun a => loN p h f t n a) k))), (0, .ref s)] rfl ?_
      rw [mxN, if_neg hmx] at ih
      exact ih

set_option maxRecDepth 100000 in
set_option maxHeartbeats 4000000 in
theorem c_X9_all {Z : GZ} {l : Launch} {s n m hA lA oA tA eA : Nat} {rw lr p h f t : Nat → Nat} {fo ft fe : Nat → Option Nat} {dy ca : Int32} (ok : SnOk n p h f t) : Ct Z l yX9_all cX9_all 3 (some .int) (rmK 5) [.ref s] (wSim Z s n m hA lA oA tA eA (fun j => some (rw j)) (fun j => some (lr j)) fo ft fe dy ca ++ wRw Z n rw p h f t) (fun v w => v = some (.int (nI (alN p h f t n))) ∧ w = (wSim Z s n m hA lA oA tA eA (fun j => some (rw j)) (fun j => some (lr j)) fo ft fe dy ca ++ wRw Z n rw p h f t)) := by
  refine Ct.ofJ (own := RX9) (nm := "all") (lv0 := [(0, .ref s)]) (by decide) rfl rfl (Nat.le_of_ble_eq_true rfl) rfl (fun X hXl C E => ?_)
  subst hXl
  refine J_room (rc2 := 0) (rs2 := 0) (Nat.le_refl _) (Nat.le_refl _) ?_
  have hn12 := ok.1
  refine J_iconst 0 C iX9_all_0 rfl ?_
  refine J_istore_n [(1, .int 0), (0, .ref s)] C iX9_all_1 rfl (by decide) rfl ?_
  refine J_iconst 0 C iX9_all_2 rfl ?_
  refine J_istore_n [(2, .int 0), (1, .int 0), (0, .ref s)] C iX9_all_3 rfl (by decide) rfl ?_
  refine J_lvm [(2, .int (nI 0)), (1, .int (nI (smN (fun a => loN p h f t n a) 0))), (0, .ref s)] rfl ?_
  refine J_for (fun k => [(2, .int (nI k)), (1, .int (nI (smN (fun a => loN p h f t n a) k))), (0, .ref s)]) (fun k => (wSim Z s n m hA lA oA tA eA (fun j => some (rw j)) (fun j => some (lr j)) fo ft fe dy ca ++ wRw Z n rw p h f t)) n 0 (by omega) ?_ (fun k hk0 hk ih => ?_)
  · refine J_iload_n C iX9_all_4 rfl rfl ?_
    refine J_aload_n C iX9_all_5 rfl rfl ?_
    refine J_get (.ref hA) 0 C iX9_all_6 gf_X9_9 rfl rfl ?_
    refine J_alenN (t0 := 6) 1 C iX9_all_9 rfl rfl ?_
    refine J_icmpge 27 C iX9_all_10 rfl (fun h10 => ?_) (fun h10 => absurd (nI_le (a := n) (b := n) (by omega) (by omega)) h10)
    refine J_iload_n C iX9_all_27 rfl rfl ?_
    exact J_iret C E iX9_all_28 ⟨rfl, rfl⟩
  · refine J_iload_n C iX9_all_4 rfl rfl ?_
    refine J_aload_n C iX9_all_5 rfl rfl ?_
    refine J_get (.ref hA) 0 C iX9_all_6 gf_X9_9 rfl rfl ?_
    refine J_alenN (t0 := 6) 1 C iX9_all_9 rfl rfl ?_
    refine J_icmpge 27 C iX9_all_10 rfl (fun h10 => absurd h10 (nI_ge (a := k) (b := n) (by omega) (by omega))) (fun h10 => ?_)
    refine J_iload_n C iX9_all_13 rfl rfl ?_
    refine J_aload_n C iX9_all_14 rfl rfl ?_
    refine J_iload_n C iX9_all_15 rfl rfl ?_
    refine J_cVb (As := [.int (nI k)]) (st := .int (nI (smN (fun a => loN p h f t n a) k)) :: []) (rc2 := 0) (rs2 := 0) (w0 := (wSim Z s n m hA lA oA tA eA (fun j => some (rw j)) (fun j => some (lr j)) fo ft fe dy ca ++ wRw Z n rw p h f t)) (q0 := 0) C iX9_all_16 lm_X9_59 yc_X9_lost yv_X9_lost (c_X9_lost (a := k) ok (by omega)) rfl rfl rfl [] [] (by simp only [List.append_assoc, List.append_nil, List.nil_append]) rfl ⟨Nat.le_of_ble_eq_true rfl, Nat.le_of_ble_eq_true rfl⟩ (Nat.le_of_ble_eq_true rfl) (Nat.zero_add _).symm (Nat.zero_add _).symm ?_
    rintro _ _ ⟨rfl, rfl⟩
    refine J_st (.int (nI (loN p h f t n k)) :: .int (nI (smN (fun a => loN p h f t n a) k)) :: []) rfl ?_
    refine J_ws (wSim Z s n m hA lA oA tA eA (fun j => some (rw j)) (fun j => some (lr j)) fo ft fe dy ca ++ wRw Z n rw p h f t) (by simp only [List.append_assoc, List.append_nil, List.nil_append]) ?_
    refine J_iadd C iX9_all_19 ?_
    rw [show (nI (smN (fun a => loN p h f t n a) k)) + (nI (loN p h f t n k)) = nI ((smN (fun a => loN p h f t n a) k) + (loN p h f t n k)) from nI_add _ _]
    refine J_istore_n [(1, .int (nI ((smN (fun a => loN p h f t n a) k) + (loN p h f t n k)))), (2, .int (nI k)), (0, .ref s)] C iX9_all_20 rfl (by decide) rfl ?_
    refine J_iinc ((nI k) + 1) [(2, .int ((nI k) + 1)), (1, .int (nI ((smN (fun a => loN p h f t n a) k) + (loN p h f t n k)))), (0, .ref s)] C iX9_all_21 rfl rfl (by decide) rfl ?_
    rw [show (nI k) + 1 = nI (k + 1) from nI_add _ _]
    refine J_goto 4 C iX9_all_24 rfl ?_
    refine J_lvm [(2, .int (nI (k + 1))), (1, .int (nI ((smN (fun a => loN p h f t n a) k) + (loN p h f t n k)))), (0, .ref s)] rfl ?_
    exact ih

