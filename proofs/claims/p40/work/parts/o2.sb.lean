theorem lsu_J4_29 : LkSU RJ4 29 yJ5_append_cf1ce := ⟨by decide, (tsg_in (i := 1220) (by decide +kernel) rfl), (tsg_in (i := 1528) (by decide +kernel) rfl), (tsg_in (i := 1221) (by decide +kernel) rfl), (tsg_in (i := 1222) (by decide +kernel) rfl)⟩
theorem lsu_J4_53 : LkSU RJ4 53 yJ5_append_c97b9 := ⟨by decide, (tsg_in (i := 1324) (by decide +kernel) rfl), (tsg_in (i := 1535) (by decide +kernel) rfl), (tsg_in (i := 1221) (by decide +kernel) rfl), (tsg_in (i := 1325) (by decide +kernel) rfl)⟩
theorem lsu_J4_343 : LkSU RJ4 343 yJ5_length_8abf5 := ⟨by decide, (tsg_in (i := 1457) (by decide +kernel) rfl), (tsg_in (i := 1453) (by decide +kernel) rfl), (tsg_in (i := 1221) (by decide +kernel) rfl), (tsg_in (i := 1452) (by decide +kernel) rfl)⟩
theorem lu_J0_549 : LkU RJ0 549 RJ4 "java/lang/AbstractStringBuilder" yJ5_length_8abf5 yJ4_length_8abf5 := ⟨rfl, by decide, (tsg_in (i := 1451) (by decide +kernel) rfl), (tsg_in (i := 1453) (by decide +kernel) rfl), (tsg_in (i := 1454) (by decide +kernel) rfl), (tsg_in (i := 1455) (by decide +kernel) rfl), (tsg_in (i := 1452) (by decide +kernel) rfl), _, _, _, (yc_J5_length_8abf5).2.1⟩
theorem lu_J0_552 : LkU RJ0 552 RJ4 "java/lang/AbstractStringBuilder" yJ5_getValue_6d5f1 yJ5_getValue_6d5f1 := ⟨rfl, by decide, (tsg_in (i := 1446) (by decide +kernel) rfl), (tsg_in (i := 1448) (by decide +kernel) rfl), (tsg_in (i := 1449) (by decide +kernel) rfl), (tsg_in (i := 1447) (by decide +kernel) rfl), (tsg_in (i := 1447) (by decide +kernel) rfl), _, _, _, (yc_J5_getValue_6d5f1).2.1⟩
theorem lu_J0_1047 : LkU RJ0 1047 RJ4 "java/lang/AbstractStringBuilder" yJ5_isLatin1_aae02 yJ5_isLatin1_aae02 := ⟨rfl, by decide, (tsg_in (i := 1459) (by decide +kernel) rfl), (tsg_in (i := 1259) (by decide +kernel) rfl), (tsg_in (i := 1260) (by decide +kernel) rfl), (tsg_in (i := 1258) (by decide +kernel) rfl), (tsg_in (i := 1258) (by decide +kernel) rfl), _, _, _, (yc_J5_isLatin1_aae02).2.1⟩
theorem lu_J5_83 : LkU RJ5 83 RJ4 "java/lang/AbstractStringBuilder" yJ5_isLatin1_aae02 yJ5_isLatin1_aae02 := ⟨rfl, by decide, (tsg_in (i := 1257) (by decide +kernel) rfl), (tsg_in (i := 1259) (by decide +kernel) rfl), (tsg_in (i := 1260) (by decide +kernel) rfl), (tsg_in (i := 1258) (by decide +kernel) rfl), (tsg_in (i := 1258) (by decide +kernel) rfl), _, _, _, (yc_J5_isLatin1_aae02).2.1⟩
theorem lu_J5_100 : LkU RJ5 100 RJ4 "java/lang/AbstractStringBuilder" yJ5_ensureCapacityInternal_d00df yJ5_ensureCapacityInternal_d00df := ⟨rfl, by decide, (tsg_in (i := 1228) (by decide +kernel) rfl), (tsg_in (i := 1530) (by decide +kernel) rfl), (tsx_in (i := 0) rfl rfl), (tsg_in (i := 1230) (by decide +kernel) rfl), (tsg_in (i := 1230) (by decide +kernel) rfl), _, _, _, (yc_J5_ensureCapacityInternal_d00df).2.1⟩
theorem lu_J5_104 : LkU RJ5 104 RJ4 "java/lang/AbstractStringBuilder" yJ5_newCapacity_0f7a4 yJ5_newCapacity_0f7a4 := ⟨rfl, by decide, (tsg_in (i := 1232) (by decide +kernel) rfl), (tsg_in (i := 1531) (by decide +kernel) rfl), (tsx_in (i := 1) rfl rfl), (tsg_in (i := 1234) (by decide +kernel) rfl), (tsg_in (i := 1234) (by decide +kernel) rfl), _, _, _, (yc_J5_newCapacity_0f7a4).2.1⟩
theorem lu_J5_208 : LkU RJ5 208 RJ4 "java/lang/AbstractStringBuilder" yJ5_putStringAt_47b60 yJ5_putStringAt_47b60 := ⟨rfl, by decide, (tsg_in (i := 1279) (by decide +kernel) rfl), (tsg_in (i := 1532) (by decide +kernel) rfl), (tsx_in (i := 2) rfl rfl), (tsg_in (i := 1281) (by decide +kernel) rfl), (tsg_in (i := 1281) (by decide +kernel) rfl), _, _, _, (yc_J5_putStringAt_47b60).2.1⟩
theorem lu_J5_397 : LkU RJ5 397 RJ4 "java/lang/AbstractStringBuilder" yJ5_inflateIfNeededFor_a7421 yJ5_inflateIfNeededFor_a7421 := ⟨rfl, by decide, (tsg_in (i := 1283) (by decide +kernel) rfl), (tsg_in (i := 1533) (by decide +kernel) rfl), (tsx_in (i := 3) rfl rfl), (tsg_in (i := 1285) (by decide +kernel) rfl), (tsg_in (i := 1285) (by decide +kernel) rfl), _, _, _, (yc_J5_inflateIfNeededFor_a7421).2.1⟩
set_option maxRecDepth 100000 in
set_option maxHeartbeats 4000000 in
theorem c_J0_coder_C {Z : GZ} {l : Launch} {i : Nat} (hi : i < 43) : Ct Z l yJ0_coder_7d493 cJ0_coder_7d493 1 (some .byte) (rmK 0) [.ref (zsk Z i)] [] (fun v w => v = some (.int 0) ∧ w = []) := by
  refine Ct.ofJ (own := RJ0) (nm := "coder") (lv0 := [(0, .ref (zsk Z i))]) (by decide) rfl rfl (Nat.le_of_ble_eq_true rfl) rfl (fun X hXl C E => ?_)
  subst hXl
  refine J_room (rc2 := 0) (rs2 := 0) (Nat.le_refl _) (Nat.le_refl _) ?_
  refine J_getsCS C iJ0_coder_7d493_0 (tsg_in (i := 837) (by decide +kernel) rfl) ?_
  refine J_ifeq 13 C iJ0_coder_7d493_3 rfl (fun h3 => absurd h3 (by decide)) (fun h3 => ?_)
  refine J_aload_n C iJ0_coder_7d493_6 rfl rfl ?_
  refine J_getCoder C iJ0_coder_7d493_7 hi (tsg_in (i := 1480) (by decide +kernel) rfl) ?_
  refine J_goto 14 C iJ0_coder_7d493_10 rfl ?_
  exact J_nret C E iJ0_coder_7d493_14 rfl ⟨rfl, rfl⟩

set_option maxRecDepth 100000 in
set_option maxHeartbeats 4000000 in
theorem c_J0_coder_D {Z : GZ} {l : Launch} {x y : Nat} : Ct Z l yJ0_coder_7d493 cJ0_coder_7d493 1 (some .byte) (rmK 0) [.ref x] (wTo Z x y) (fun v w => v = some (.int 0) ∧ w = (wTo Z x y)) := by
  refine Ct.ofJ (own := RJ0) (nm := "coder") (lv0 := [(0, .ref x)]) (by decide) rfl rfl (Nat.le_of_ble_eq_true rfl) rfl (fun X hXl C E => ?_)
  subst hXl
  refine J_room (rc2 := 0) (rs2 := 0) (Nat.le_refl _) (Nat.le_refl _) ?_
  refine J_getsCS C iJ0_coder_7d493_0 (tsg_in (i := 837) (by decide +kernel) rfl) ?_
  refine J_ifeq 13 C iJ0_coder_7d493_3 rfl (fun h3 => absurd h3 (by decide)) (fun h3 => ?_)
  refine J_aload_n C iJ0_coder_7d493_6 rfl rfl ?_
  refine J_get (.int 0) 0 C iJ0_coder_7d493_7 gf_J0_15 rfl rfl ?_
  refine J_goto 14 C iJ0_coder_7d493_10 rfl ?_
  exact J_nret C E iJ0_coder_7d493_14 rfl ⟨rfl, rfl⟩

set_option maxRecDepth 100000 in
set_option maxHeartbeats 4000000 in
theorem c_J0_isLatin1_D {Z : GZ} {l : Launch} {x y : Nat} : Ct Z l yJ0_isLatin1_aae02 cJ0_isLatin1_aae02 1 (some .boolean) (rmK 0) [.ref x] (wTo Z x y) (fun v w => v = some (.int 1) ∧ w = (wTo Z x y)) := by
  refine Ct.ofJ (own := RJ0) (nm := "isLatin1") (lv0 := [(0, .ref x)]) (by decide) rfl rfl (Nat.le_of_ble_eq_true rfl) rfl (fun X hXl C E => ?_)
  subst hXl
  refine J_room (rc2 := 0) (rs2 := 0) (Nat.le_refl _) (Nat.le_refl _) ?_
  refine J_getsCS C iJ0_isLatin1_aae02_0 (tsg_in (i := 837) (by decide +kernel) rfl) ?_
  refine J_ifeq 17 C iJ0_isLatin1_aae02_3 rfl (fun h3 => absurd h3 (by decide)) (fun h3 => ?_)
  refine J_aload_n C iJ0_isLatin1_aae02_6 rfl rfl ?_
  refine J_get (.int 0) 0 C iJ0_isLatin1_aae02_7 gf_J0_15 rfl rfl ?_
  refine J_ifne 17 C iJ0_isLatin1_aae02_10 rfl (fun h10 => absurd (by decide) h10) (fun h10 => ?_)
  refine J_iconst 1 C iJ0_isLatin1_aae02_13 rfl ?_
  refine J_goto 18 C iJ0_isLatin1_aae02_14 rfl ?_
  exact J_zret C E iJ0_isLatin1_aae02_18 rfl ⟨rfl, rfl⟩

set_option maxRecDepth 100000 in
set_option maxHeartbeats 4000000 in
theorem c_J0_length_C {Z : GZ} {l : Launch} {i : Nat} (hi : i < 43) : Ct Z l yJ0_length_8abf5 cJ0_length_8abf5 1 (some .int) (rmK 1) [.ref (zsk Z i)] [] (fun v w => v = some (.int (nI (wLen.getD i 0))) ∧ w = []) := by
  refine Ct.ofJ (own := RJ0) (nm := "length") (lv0 := [(0, .ref (zsk Z i))]) (by decide) rfl rfl (Nat.le_of_ble_eq_true rfl) rfl (fun X hXl C E => ?_)
  subst hXl
  refine J_room (rc2 := 0) (rs2 := 0) (Nat.le_refl _) (Nat.le_refl _) ?_
  refine J_aload_n C iJ0_length_8abf5_0 rfl rfl ?_
  refine J_getValue C iJ0_length_8abf5_1 hi (tsg_in (i := 1479) (by decide +kernel) rfl) ?_
  refine J_alenS C iJ0_length_8abf5_4 hi ?_
  refine J_aload_n C iJ0_length_8abf5_5 rfl rfl ?_
  refine J_cVCb (As := []) (st := .int (nI (wLen.getD i 0)) :: []) (rc2 := 0) (rs2 := 0) (w0 := []) C iJ0_length_8abf5_6 lm_J0_335 yc_J0_coder_7d493 yv_J0_coder_7d493 (c_J0_coder_C (i := i) hi) hi rfl [] [] (by simp only [List.append_assoc, List.append_nil, List.nil_append]) rfl ⟨Nat.le_of_ble_eq_true rfl, Nat.le_of_ble_eq_true rfl⟩ (Nat.le_of_ble_eq_true rfl) (Nat.zero_add _).symm (Nat.zero_add _).symm ?_
  rintro _ _ ⟨rfl, rfl⟩
  refine J_st (.int 0 :: .int (nI (wLen.getD i 0)) :: []) rfl ?_
  refine J_ws [] (by simp only [List.append_assoc, List.append_nil, List.nil_append]) ?_
  refine J_ishr C iJ0_length_8abf5_9 ?_
  rw [sb_shr0]
  exact J_iret C E iJ0_length_8abf5_10 ⟨rfl, rfl⟩

set_option maxRecDepth 100000 in
set_option maxHeartbeats 4000000 in
theorem c_J0_length_D {Z : GZ} {l : Launch} {x y N : Nat} {b : Nat → Int32} : Ct Z l yJ0_length_8abf5 cJ0_length_8abf5 1 (some .int) (rmK 1) [.ref x] (wTo Z x y ++ arrB Z y N b) (fun v w => v = some (.int (nI N)) ∧ w = (wTo Z x y ++ arrB Z y N b)) := by
  refine Ct.ofJ (own := RJ0) (nm := "length") (lv0 := [(0, .ref x)]) (by decide) rfl rfl (Nat.le_of_ble_eq_true rfl) rfl (fun X hXl C E => ?_)
  subst hXl
  refine J_room (rc2 := 0) (rs2 := 0) (Nat.le_refl _) (Nat.le_refl _) ?_
  refine J_aload_n C iJ0_length_8abf5_0 rfl rfl ?_
  refine J_get (.ref y) 0 C iJ0_length_8abf5_1 gf_J0_9 rfl rfl ?_
  refine J_alenN (t0 := 2) 1 C iJ0_length_8abf5_4 rfl rfl ?_
  refine J_aload_n C iJ0_length_8abf5_5 rfl rfl ?_
  refine J_cVb (As := []) (st := .int (nI N) :: []) (rc2 := 0) (rs2 := 0) (w0 := (wTo Z x y)) (q0 := 0) C iJ0_length_8abf5_6 lm_J0_335 yc_J0_coder_7d493 yv_J0_coder_7d493 c_J0_coder_D rfl rfl rfl [] (arrB Z y N b) (by simp only [List.append_assoc, List.append_nil, List.nil_append]) rfl ⟨Nat.le_of_ble_eq_true rfl, Nat.le_of_ble_eq_true rfl⟩ (Nat.le_of_ble_eq_true rfl) (Nat.zero_add _).symm (Nat.zero_add _).symm ?_
  rintro _ _ ⟨rfl, rfl⟩
  refine J_st (.int 0 :: .int (nI N) :: []) rfl ?_
  refine J_ws (wTo Z x y ++ arrB Z y N b) (by simp only [List.append_assoc, List.append_nil, List.nil_append]) ?_
  refine J_ishr C iJ0_length_8abf5_9 ?_
  rw [sb_shr0]
  exact J_iret C E iJ0_length_8abf5_10 ⟨rfl, rfl⟩

set_option maxRecDepth 100000 in
set_option maxHeartbeats 4000000 in
theorem c_J0_getBytes_C {Z : GZ} {l : Launch} {i d cap p : Nat} {g : Nat → Int32} (hi : i < 43) (h : p + wLen.getD i 0 ≤ cap) (hc : cap ≤ 65536) : Ct Z l yJ0_getBytes_840e7 cJ0_getBytes_840e7 4 none (rmK 1) [.ref (zsk Z i), .ref d, .int (nI p), .int 0] (arrB Z d cap g) (fun v w => v = none ∧ w = (arrB Z d cap (va_cpy (cBy i) g 0 p (wLen.getD i 0)))) := by
  refine Ct.ofJ (own := RJ0) (nm := "getBytes") (lv0 := [(0, .ref (zsk Z i)), (1, .ref d), (2, .int (nI p)), (3, .int 0)]) (by decide) rfl rfl (Nat.le_of_ble_eq_true rfl) rfl (fun X hXl C E => ?_)
  subst hXl
  refine J_room (rc2 := 0) (rs2 := 0) (Nat.le_refl _) (Nat.le_refl _) ?_
  refine J_aload_n C iJ0_getBytes_840e7_0 rfl rfl ?_
  refine J_cVCb (As := []) (st := []) (rc2 := 0) (rs2 := 0) (w0 := []) C iJ0_getBytes_840e7_1 lm_J0_335 yc_J0_coder_7d493 yv_J0_coder_7d493 (c_J0_coder_C (i := i) hi) hi rfl [] (arrB Z d cap g) (by simp only [List.append_assoc, List.append_nil, List.nil_append]) rfl ⟨Nat.le_of_ble_eq_true rfl, Nat.le_of_ble_eq_true rfl⟩ (Nat.le_of_ble_eq_true rfl) (Nat.zero_add _).symm (Nat.zero_add _).symm ?_
  rintro _ _ ⟨rfl, rfl⟩
  refine J_st (.int 0 :: []) rfl ?_
  refine J_ws (arrB Z d cap g) (by simp only [List.append_assoc, List.append_nil, List.nil_append]) ?_
  refine J_iload_n C iJ0_getBytes_840e7_4 rfl rfl ?_
  refine J_icmpne 28 C iJ0_getBytes_840e7_5 rfl (fun h5 => absurd (by decide) h5) (fun h5 => ?_)
  refine J_aload_n C iJ0_getBytes_840e7_8 rfl rfl ?_
  refine J_getValue C iJ0_getBytes_840e7_9 hi (tsg_in (i := 1479) (by decide +kernel) rfl) ?_
  refine J_iconst 0 C iJ0_getBytes_840e7_12 rfl ?_
  refine J_aload_n C iJ0_getBytes_840e7_13 rfl rfl ?_
  refine J_iload_n C iJ0_getBytes_840e7_14 rfl rfl ?_
  refine J_iload_n C iJ0_getBytes_840e7_15 rfl rfl ?_
  refine J_ishl C iJ0_getBytes_840e7_16 ?_
  rw [sb_shl0]
  refine J_aload_n C iJ0_getBytes_840e7_17 rfl rfl ?_
  refine J_getValue C iJ0_getBytes_840e7_18 hi (tsg_in (i := 1479) (by decide +kernel) rfl) ?_
  refine J_alenS C iJ0_getBytes_840e7_21 hi ?_
  refine J_copyC (arrB Z d cap (va_cpy (fun j => (wByt.getD i []).getD j 0) g (Int32.toNatClampNeg 0) (nI p).toNatClampNeg (nI (wLen.getD i 0)).toNatClampNeg)) 0 C iJ0_getBytes_840e7_22 hi (tsg_in (i := 1318) (by decide +kernel) rfl) ac_1 ac_2 ac_3 rfl (by decide) (nI_pos (n := p) (by omega)) (nI_pos (n := (wLen.getD i 0)) (by omega)) (by rw [show Int32.toNatClampNeg 0 = 0 from rfl, nI_clamp (n := (wLen.getD i 0)) (by omega)]; omega) (by rw [nI_clamp (n := p) (by omega), nI_clamp (n := (wLen.getD i 0)) (by omega)]; omega) (Nat.le_of_ble_eq_true rfl) (Nat.le_of_ble_eq_true rfl) rfl ?_
  rw [show Int32.toNatClampNeg 0 = 0 from rfl, nI_clamp (n := p) (by omega), nI_clamp (n := (wLen.getD i 0)) (by omega)]
  refine J_goto 43 C iJ0_getBytes_840e7_25 rfl ?_
  exact J_vret C E iJ0_getBytes_840e7_43 ⟨rfl, rfl⟩

set_option maxRecDepth 100000 in
set_option maxHeartbeats 4000000 in
theorem c_J0_getBytes_D {Z : GZ} {l : Launch} {x y N d cap p : Nat} {b g : Nat → Int32} (hf : sb_Fit b) (h : p + N ≤ cap) (hc : cap ≤ 65536) : Ct Z l yJ0_getBytes_840e7 cJ0_getBytes_840e7 4 none (rmK 1) [.ref x, .ref d, .int (nI p), .int 0] ((arrB Z d cap g ++ wTo Z x y) ++ arrB Z y N b) (fun v w => v = none ∧ w = ((arrB Z d cap (va_cpy b g 0 p N) ++ wTo Z x y) ++ arrB Z y N b)) := by
  refine Ct.ofJ (own := RJ0) (nm := "getBytes") (lv0 := [(0, .ref x), (1, .ref d), (2, .int (nI p)), (3, .int 0)]) (by decide) rfl rfl (Nat.le_of_ble_eq_true rfl) rfl (fun X hXl C E => ?_)
  subst hXl
  refine J_room (rc2 := 0) (rs2 := 0) (Nat.le_refl _) (Nat.le_refl _) ?_
  refine J_aload_n C iJ0_getBytes_840e7_0 rfl rfl ?_
  refine J_cVb (As := []) (st := []) (rc2 := 0) (rs2 := 0) (w0 := (wTo Z x y)) (q0 := 0) C iJ0_getBytes_840e7_1 lm_J0_335 yc_J0_coder_7d493 yv_J0_coder_7d493 c_J0_coder_D rfl rfl rfl (arrB Z d cap g) (arrB Z y N b) (by simp only [List.append_assoc, List.append_nil, List.nil_append]) rfl ⟨Nat.le_of_ble_eq_true rfl, Nat.le_of_ble_eq_true rfl⟩ (Nat.le_of_ble_eq_true rfl) (Nat.zero_add _).symm (Nat.zero_add _).symm ?_
  rintro _ _ ⟨rfl, rfl⟩
  refine J_st (.int 0 :: []) rfl ?_
  refine J_ws ((arrB Z d cap g ++ wTo Z x y) ++ arrB Z y N b) (by simp only [List.append_assoc, List.append_nil, List.nil_append]) ?_
  refine J_iload_n C iJ0_getBytes_840e7_4 rfl rfl ?_
  refine J_icmpne 28 C iJ0_getBytes_840e7_5 rfl (fun h5 => absurd (by decide) h5) (fun h5 => ?_)
  refine J_aload_n C iJ0_getBytes_840e7_8 rfl rfl ?_
  refine J_get (.ref y) 1 C iJ0_getBytes_840e7_9 gf_J0_9 rfl rfl ?_
  refine J_iconst 0 C iJ0_getBytes_840e7_12 rfl ?_
  refine J_aload_n C iJ0_getBytes_840e7_13 rfl rfl ?_
  refine J_iload_n C iJ0_getBytes_840e7_14 rfl rfl ?_
  refine J_iload_n C iJ0_getBytes_840e7_15 rfl rfl ?_
  refine J_ishl C iJ0_getBytes_840e7_16 ?_
  rw [sb_shl0]
  refine J_aload_n C iJ0_getBytes_840e7_17 rfl rfl ?_
  refine J_get (.ref y) 1 C iJ0_getBytes_840e7_18 gf_J0_9 rfl rfl ?_
  refine J_alenN (t0 := 2) 2 C iJ0_getBytes_840e7_21 rfl rfl ?_
  refine J_copyB ((arrB Z d cap (va_cpy b g (Int32.toNatClampNeg 0) (nI p).toNatClampNeg (nI N).toNatClampNeg) ++ wTo Z x y) ++ arrB Z y N b) 2 0 C iJ0_getBytes_840e7_22 (tsg_in (i := 1318) (by decide +kernel) rfl) ac_1 ac_2 ac_3 rfl rfl (by decide) (nI_pos (n := p) (by omega)) (nI_pos (n := N) (by omega)) (by rw [show Int32.toNatClampNeg 0 = 0 from rfl, nI_clamp (n := N) (by omega)]; omega) (by rw [nI_clamp (n := p) (by omega), nI_clamp (n := N) (by omega)]; omega) hf (Nat.le_of_ble_eq_true rfl) (Nat.le_of_ble_eq_true rfl) rfl ?_
  rw [show Int32.toNatClampNeg 0 = 0 from rfl, nI_clamp (n := p) (by omega), nI_clamp (n := N) (by omega)]
  refine J_goto 43 C iJ0_getBytes_840e7_25 rfl ?_
  exact J_vret C E iJ0_getBytes_840e7_43 ⟨rfl, rfl⟩

set_option maxRecDepth 100000 in
set_option maxHeartbeats 4000000 in
theorem c_J5_length_8abf5 {Z : GZ} {l : Launch} {x y : Nat} {n : Int32} : Ct Z l yJ5_length_8abf5 cJ5_length_8abf5 1 (some .int) (rmK 0) [.ref x] (wSo Z x y n) (fun v w => v = some (.int n) ∧ w = (wSo Z x y n)) := by
  refine Ct.ofJ (own := RJ5) (nm := "length") (lv0 := [(0, .ref x)]) (by decide) rfl rfl (Nat.le_of_ble_eq_true rfl) rfl (fun X hXl C E => ?_)
  subst hXl
  refine J_room (rc2 := 0) (rs2 := 0) (Nat.le_refl _) (Nat.le_refl _) ?_
  refine J_aload_n C iJ5_length_8abf5_0 rfl rfl ?_
  refine J_get (.int n) 0 C iJ5_length_8abf5_1 gf_J5_79 rfl rfl ?_
  exact J_iret C E iJ5_length_8abf5_4 ⟨rfl, rfl⟩

set_option maxRecDepth 100000 in
set_option maxHeartbeats 4000000 in
theorem c_J5_getValue_6d5f1 {Z : GZ} {l : Launch} {x y : Nat} {n : Int32} : Ct Z l yJ5_getValue_6d5f1 cJ5_getValue_6d5f1 1 (some (.array .byte)) (rmK 0) [.ref x] (wSo Z x y n) (fun v w => v = some (.ref y) ∧ w = (wSo Z x y n)) := by
  refine Ct.ofJ (own := RJ5) (nm := "getValue") (lv0 := [(0, .ref x)]) (by decide) rfl rfl (Nat.le_of_ble_eq_true rfl) rfl (fun X hXl C E => ?_)
  subst hXl
  refine J_room (rc2 := 0) (rs2 := 0) (Nat.le_refl _) (Nat.le_refl _) ?_
  refine J_aload_n C iJ5_getValue_6d5f1_0 rfl rfl ?_
  refine J_get (.ref y) 0 C iJ5_getValue_6d5f1_1 gf_J5_15 rfl rfl ?_
  exact J_aret C E iJ5_getValue_6d5f1_4 (Or.inr ⟨_, rfl⟩) ⟨rfl, rfl⟩

set_option maxRecDepth 100000 in
set_option maxHeartbeats 4000000 in
theorem c_J5_isLatin1_aae02 {Z : GZ} {l : Launch} {x y : Nat} {n : Int32} : Ct Z l yJ5_isLatin1_aae02 cJ5_isLatin1_aae02 1 (some .boolean) (rmK 0) [.ref x] (wSo Z x y n) (fun v w => v = some (.int 1) ∧ w = (wSo Z x y n)) := by
  refine Ct.ofJ (own := RJ5) (nm := "isLatin1") (lv0 := [(0, .ref x)]) (by decide) rfl rfl (Nat.le_of_ble_eq_true rfl) rfl (fun X hXl C E => ?_)
  subst hXl
  refine J_room (rc2 := 0) (rs2 := 0) (Nat.le_refl _) (Nat.le_refl _) ?_
  refine J_getsCS C iJ5_isLatin1_aae02_0 (tsg_in (i := 1262) (by decide +kernel) rfl) ?_
  refine J_ifeq 17 C iJ5_isLatin1_aae02_3 rfl (fun h3 => absurd h3 (by decide)) (fun h3 => ?_)
  refine J_aload_n C iJ5_isLatin1_aae02_6 rfl rfl ?_
  refine J_get (.int 0) 0 C iJ5_isLatin1_aae02_7 gf_J5_22 rfl rfl ?_
  refine J_ifne 17 C iJ5_isLatin1_aae02_10 rfl (fun h10 => absurd (by decide) h10) (fun h10 => ?_)
  refine J_iconst 1 C iJ5_isLatin1_aae02_13 rfl ?_
  refine J_goto 18 C iJ5_isLatin1_aae02_14 rfl ?_
  exact J_zret C E iJ5_isLatin1_aae02_18 rfl ⟨rfl, rfl⟩

set_option maxRecDepth 100000 in
set_option maxHeartbeats 4000000 in
theorem c_J8_newLength_cabcc {Z : GZ} {l : Launch} {q m : Nat} (h : m < q) (hq : q ≤ 65536) : Ct Z l yJ8_newLength_cabcc cJ8_newLength_cabcc 4 (some .int) (rmK 1) [.int (nI m), .int (nI (q - m)), .int (nI (m + 2))] [] (fun v w => v = some (.int (nI (sb_cap q m))) ∧ w = []) := by
  refine Ct.ofJ (own := RJ8) (nm := "newLength") (lv0 := [(0, .int (nI m)), (1, .int (nI (q - m))), (2, .int (nI (m + 2)))]) (by decide) rfl rfl (Nat.le_of_ble_eq_true rfl) rfl (fun X hXl C E => ?_)
  subst hXl
  refine J_room (rc2 := 0) (rs2 := 0) (Nat.le_refl _) (Nat.le_refl _) ?_
  have hc2 := cap_2 h
  have hc3 := sb_cap_ge q m
  refine J_iload_n C iJ8_newLength_cabcc_0 rfl rfl ?_
  refine J_iload_n C iJ8_newLength_cabcc_1 rfl rfl ?_
  refine J_iload_n C iJ8_newLength_cabcc_2 rfl rfl ?_
  refine J_imax C iJ8_newLength_cabcc_3 (tsg_in (i := 1239) (by decide +kernel) rfl) ma_imax_1 ma_i ma_imax_2 (Nat.le_of_ble_eq_true rfl) (Nat.le_of_ble_eq_true rfl) ?_
  refine J_iadd C iJ8_newLength_cabcc_6 ?_
  rw [nl_eq h hq]
  refine J_istore_n [(3, .int (nI (sb_cap q m))), (0, .int (nI m)), (1, .int (nI (q - m))), (2, .int (nI (m + 2)))] C iJ8_newLength_cabcc_7 rfl (by decide) rfl ?_
  refine J_iconst 0 C iJ8_newLength_cabcc_8 rfl ?_
  refine J_iload_n C iJ8_newLength_cabcc_9 rfl rfl ?_
  refine J_icmpge 21 C iJ8_newLength_cabcc_10 rfl (fun h10 => absurd h10 (nI_ge (a := 0) (b := (sb_cap q m)) (by omega) (by omega))) (fun h10 => ?_)
  refine J_iload_n C iJ8_newLength_cabcc_13 rfl rfl ?_
  refine J_ldcI 2147483639 C iJ8_newLength_cabcc_14 (tsg_in (i := 1240) (by decide +kernel) rfl) ?_
  refine J_icmpgt 21 C iJ8_newLength_cabcc_16 rfl (fun h16 => absurd h16 (nI_nlt (a := 2147483639) (b := (sb_cap q m)) (by omega) (by omega))) (fun h16 => ?_)
  refine J_iload_n C iJ8_newLength_cabcc_19 rfl rfl ?_
  exact J_iret C E iJ8_newLength_cabcc_20 ⟨rfl, rfl⟩

set_option maxRecDepth 100000 in
set_option maxHeartbeats 4000000 in
theorem c_J5_newCapacity_0f7a4 {Z : GZ} {l : Launch} {x y cap q : Nat} {n : Int32} {b : Nat → Int32} (h : cap < q) (hq : q ≤ 65536) : Ct Z l yJ5_newCapacity_0f7a4 cJ5_newCapacity_0f7a4 6 (some .int) (rmK 2) [.ref x, .int (nI q)] (wSo Z x y n ++ arrB Z y cap b) (fun v w => v = some (.int (nI (sb_cap q cap))) ∧ w = (wSo Z x y n ++ arrB Z y cap b)) := by
  refine Ct.ofJ (own := RJ5) (nm := "newCapacity") (lv0 := [(0, .ref x), (1, .int (nI q))]) (by decide) rfl rfl (Nat.le_of_ble_eq_true rfl) rfl (fun X hXl C E => ?_)
  subst hXl
  refine J_room (rc2 := 0) (rs2 := 0) (Nat.le_refl _) (Nat.le_refl _) ?_
  have hc2 := cap_2 h
  refine J_aload_n C iJ5_newCapacity_0f7a4_0 rfl rfl ?_
  refine J_get (.ref y) 0 C iJ5_newCapacity_0f7a4_1 gf_J5_15 rfl rfl ?_
  refine J_alenN (t0 := 2) 1 C iJ5_newCapacity_0f7a4_4 rfl rfl ?_
  refine J_istore_n [(2, .int (nI cap)), (0, .ref x), (1, .int (nI q))] C iJ5_newCapacity_0f7a4_5 rfl (by decide) rfl ?_
  refine J_iload_n C iJ5_newCapacity_0f7a4_6 rfl rfl ?_
  refine J_aload_n C iJ5_newCapacity_0f7a4_7 rfl rfl ?_
  refine J_get (.int 0) 0 C iJ5_newCapacity_0f7a4_8 gf_J5_22 rfl rfl ?_
  refine J_ishl C iJ5_newCapacity_0f7a4_11 ?_
  rw [sb_shl0]
  refine J_istore_n [(3, .int (nI q)), (2, .int (nI cap)), (0, .ref x), (1, .int (nI q))] C iJ5_newCapacity_0f7a4_12 rfl (by decide) rfl ?_
  refine J_iload_n C iJ5_newCapacity_0f7a4_13 rfl rfl ?_
  refine J_iload_n C iJ5_newCapacity_0f7a4_14 rfl rfl ?_
  refine J_isub C iJ5_newCapacity_0f7a4_15 ?_
  rw [show (nI q) - (nI cap) = nI (q - cap) from pk_sub (by omega)]
  refine J_istore [(4, .int (nI (q - cap))), (3, .int (nI q)), (2, .int (nI cap)), (0, .ref x), (1, .int (nI q))] C iJ5_newCapacity_0f7a4_16 (by decide) rfl ?_
  refine J_iload_n C iJ5_newCapacity_0f7a4_18 rfl rfl ?_
  refine J_iload C iJ5_newCapacity_0f7a4_19 rfl ?_
  refine J_iload_n C iJ5_newCapacity_0f7a4_21 rfl rfl ?_
  refine J_iconst 2 C iJ5_newCapacity_0f7a4_22 rfl ?_
  refine J_aload_n C iJ5_newCapacity_0f7a4_23 rfl rfl ?_
  refine J_get (.int 0) 0 C iJ5_newCapacity_0f7a4_24 gf_J5_22 rfl rfl ?_
  refine J_ishl C iJ5_newCapacity_0f7a4_27 ?_
  rw [sb_shl0]
  refine J_iadd C iJ5_newCapacity_0f7a4_28 ?_
  rw [show (nI cap) + 2 = nI (cap + 2) from nI_add _ _]
  refine J_cSb (As := [.int (nI cap), .int (nI (q - cap)), .int (nI (cap + 2))]) (st := []) (rc2 := 0) (rs2 := 0) (w0 := []) C iJ5_newCapacity_0f7a4_29 lm_J5_114 yc_J8_newLength_cabcc ys_J8_newLength_cabcc (c_J8_newLength_cabcc (q := q) (m := cap) h hq) [] (wSo Z x y n ++ arrB Z y cap b) (by simp only [List.append_assoc, List.append_nil, List.nil_append]) rfl ⟨Nat.le_of_ble_eq_true rfl, Nat.le_of_ble_eq_true rfl⟩ (Nat.le_of_ble_eq_true rfl) (Nat.zero_add _).symm (Nat.zero_add _).symm ?_
  rintro _ _ ⟨rfl, rfl⟩
  refine J_st (.int (nI (sb_cap q cap)) :: []) rfl ?_
  refine J_ws (wSo Z x y n ++ arrB Z y cap b) (by simp only [List.append_assoc, List.append_nil, List.nil_append]) ?_
  refine J_istore [(5, .int (nI (sb_cap q cap))), (4, .int (nI (q - cap))), (3, .int (nI q)), (2, .int (nI cap)), (0, .ref x), (1, .int (nI q))] C iJ5_newCapacity_0f7a4_32 (by decide) rfl ?_
  refine J_iload C iJ5_newCapacity_0f7a4_34 rfl ?_
  refine J_ldcI 2147483647 C iJ5_newCapacity_0f7a4_36 (tsg_in (i := 1244) (by decide +kernel) rfl) ?_
  refine J_icmpne 51 C iJ5_newCapacity_0f7a4_38 rfl (fun h38 => ?_) (fun h38 => absurd h38 (fun e => absurd ((nI_eq (a := sb_cap q cap) (b := 2147483647) (by omega) (by decide)).mp e) (by omega)))
  refine J_iload C iJ5_newCapacity_0f7a4_51 rfl ?_
  refine J_aload_n C iJ5_newCapacity_0f7a4_53 rfl rfl ?_
  refine J_get (.int 0) 0 C iJ5_newCapacity_0f7a4_54 gf_J5_22 rfl rfl ?_
  refine J_ishr C iJ5_newCapacity_0f7a4_57 ?_
  rw [sb_shr0]
  exact J_iret C E iJ5_newCapacity_0f7a4_58 ⟨rfl, rfl⟩

set_option maxRecDepth 100000 in
set_option maxHeartbeats 4000000 in
theorem c_J7_copyOf_9075b {Z : GZ} {l : Launch} {x N M : Nat} {b : Nat → Int32} (hf : sb_Fit b) (h : N < M) (hM : M ≤ 65536) : Ct Z l yJ7_copyOf_9075b cJ7_copyOf_9075b 3 (some (.array .byte)) (rmM 1 1 M) [.ref x, .int (nI M)] (arrB Z x N b) (fun v w => ∃ q : Nat, v = some (.ref q) ∧ w = (arrB Z x N b ++ arrB Z q M (va_cpy b (fun _ => 0) 0 0 N))) := by
  refine Ct.ofJ (own := RJ7) (nm := "copyOf") (lv0 := [(0, .ref x), (1, .int (nI M))]) (by decide) rfl rfl (Nat.le_of_ble_eq_true rfl) rfl (fun X hXl C E => ?_)
  subst hXl
  refine J_room (rc2 := 1) (rs2 := M) (Nat.le_refl _) (Nat.le_refl _) ?_
  refine J_iload_n C iJ7_copyOf_9075b_0 rfl rfl ?_
  refine J_aload_n C iJ7_copyOf_9075b_1 rfl rfl ?_
  refine J_alenN (t0 := 2) 0 C iJ7_copyOf_9075b_2 rfl rfl ?_
  refine J_icmpne 14 C iJ7_copyOf_9075b_3 rfl (fun h3 => ?_) (fun h3 => absurd h3 (fun e => absurd ((nI_eq (a := M) (b := N) (by omega) (by omega)).mp e) (by omega)))
  refine J_iload_n C iJ7_copyOf_9075b_14 rfl rfl ?_
  refine J_room (rc2 := 1 + 0) (rs2 := M + (M - M)) (by omega) (by omega) ?_
  refine J_newB M C iJ7_copyOf_9075b_15 (tsg_in (i := 86) (by decide +kernel) rfl) (nI_pos (n := M) (by omega)) (nI_clamp (n := M) (by omega)) (by omega) (fun n1 => ?_)
  refine J_ws (arrB Z x N b ++ arrB Z n1 M (fun _ => 0)) rfl ?_
  refine J_astore_n [(2, .ref n1), (0, .ref x), (1, .int (nI M))] C iJ7_copyOf_9075b_17 rfl (by decide) rfl ?_
  refine J_aload_n C iJ7_copyOf_9075b_18 rfl rfl ?_
  refine J_iconst 0 C iJ7_copyOf_9075b_19 rfl ?_
  refine J_aload_n C iJ7_copyOf_9075b_20 rfl rfl ?_
  refine J_iconst 0 C iJ7_copyOf_9075b_21 rfl ?_
  refine J_aload_n C iJ7_copyOf_9075b_22 rfl rfl ?_
  refine J_alenN (t0 := 2) 0 C iJ7_copyOf_9075b_23 rfl rfl ?_
  refine J_iload_n C iJ7_copyOf_9075b_24 rfl rfl ?_
  refine J_imin C iJ7_copyOf_9075b_25 (tsg_in (i := 1255) (by decide +kernel) rfl) ma_imin_1 ma_i ma_imin_2 (Nat.le_of_ble_eq_true rfl) (Nat.le_of_ble_eq_true rfl) ?_
  rw [if_neg (nI_nlt (a := M) (b := N) (by omega) (by omega))]
  refine J_copyB (arrB Z x N b ++ arrB Z n1 M (va_cpy b (fun _ => 0) (Int32.toNatClampNeg 0) (Int32.toNatClampNeg 0) (nI N).toNatClampNeg)) 0 1 C iJ7_copyOf_9075b_28 (tsg_in (i := 1256) (by decide +kernel) rfl) ac_1 ac_2 ac_3 rfl rfl (by decide) (by decide) (nI_pos (n := N) (by omega)) (by rw [show Int32.toNatClampNeg 0 = 0 from rfl, nI_clamp (n := N) (by omega)]; omega) (by rw [show Int32.toNatClampNeg 0 = 0 from rfl, nI_clamp (n := N) (by omega)]; omega) hf (Nat.le_of_ble_eq_true rfl) (Nat.le_of_ble_eq_true rfl) rfl ?_
  rw [show Int32.toNatClampNeg 0 = 0 from rfl, nI_clamp (n := N) (by omega)]
  refine J_aload_n C iJ7_copyOf_9075b_31 rfl rfl ?_
  exact J_aret C E iJ7_copyOf_9075b_32 (Or.inr ⟨_, rfl⟩) ⟨n1, rfl, rfl⟩

set_option maxRecDepth 100000 in
set_option maxHeartbeats 4000000 in
theorem c_J5_ensureCapacityInternal_d00df {Z : GZ} {l : Launch} {x y cap q : Nat} {n : Int32} {b : Nat → Int32} (hf : sb_Fit b) (hq : q ≤ 2000) (hm : cap ≤ 4002) : Ct Z l yJ5_ensureCapacityInternal_d00df cJ5_ensureCapacityInternal_d00df 3 none (rmM 4 1 4002) [.ref x, .int (nI q)] (wSo Z x y n ++ arrB Z y cap b) (fun v w => v = none ∧ ∃ (y' : Nat) (b' : Nat → Int32), w = (wSo Z x y' n ++ arrB Z y' (sb_cap q cap) b') ∧ sb_Fit b' ∧ ∀ i, i < cap → b' i = b i) := by
  refine Ct.ofJ (own := RJ5) (nm := "ensureCapacityInternal") (lv0 := [(0, .ref x), (1, .int (nI q))]) (by decide) rfl rfl (Nat.le_of_ble_eq_true rfl) rfl (fun X hXl C E => ?_)
  subst hXl
  refine J_room (rc2 := 1) (rs2 := 4002) (Nat.le_refl _) (Nat.le_refl _) ?_
  have hc4 := cap_4 (m := cap) hq hm
  have hcg := sb_cap_ge q cap
  refine J_aload_n C iJ5_ensureCapacityInternal_d00df_0 rfl rfl ?_
  refine J_get (.ref y) 0 C iJ5_ensureCapacityInternal_d00df_1 gf_J5_15 rfl rfl ?_
  refine J_alenN (t0 := 2) 1 C iJ5_ensureCapacityInternal_d00df_4 rfl rfl ?_
  refine J_aload_n C iJ5_ensureCapacityInternal_d00df_5 rfl rfl ?_
  refine J_get (.int 0) 0 C iJ5_ensureCapacityInternal_d00df_6 gf_J5_22 rfl rfl ?_
  refine J_ishr C iJ5_ensureCapacityInternal_d00df_9 ?_
  rw [sb_shr0]
  refine J_istore_n [(2, .int (nI cap)), (0, .ref x), (1, .int (nI q))] C iJ5_ensureCapacityInternal_d00df_10 rfl (by decide) rfl ?_
  refine J_iload_n C iJ5_ensureCapacityInternal_d00df_11 rfl rfl ?_
  refine J_iload_n C iJ5_ensureCapacityInternal_d00df_12 rfl rfl ?_
  refine J_isub C iJ5_ensureCapacityInternal_d00df_13 ?_
  by_cases hqc : q ≤ cap
  · refine J_ifle 38 C iJ5_ensureCapacityInternal_d00df_14 rfl (fun h14 => ?_) (fun h14 => absurd (sub_le0 hqc (by omega)) h14)
    exact J_vret C E iJ5_ensureCapacityInternal_d00df_38 ⟨rfl, y, b, by rw [sb_cap, if_pos hqc], hf, fun _ _ => rfl⟩
  · refine J_ifle 38 C iJ5_ensureCapacityInternal_d00df_14 rfl (fun h14 => absurd h14 (sub_nle0 (by omega) (by omega))) (fun h14 => ?_)
    refine J_aload_n C iJ5_ensureCapacityInternal_d00df_17 rfl rfl ?_
    refine J_aload_n C iJ5_ensureCapacityInternal_d00df_18 rfl rfl ?_
    refine J_get (.ref y) 0 C iJ5_ensureCapacityInternal_d00df_19 gf_J5_15 rfl rfl ?_
    refine J_aload_n C iJ5_ensureCapacityInternal_d00df_22 rfl rfl ?_
    refine J_iload_n C iJ5_ensureCapacityInternal_d00df_23 rfl rfl ?_
    refine J_cUb (As := [.int (nI q)]) (st := .ref y :: .ref x :: []) (rc2 := 1) (rs2 := 4002) (w0 := (wSo Z x y n ++ arrB Z y cap b)) (r := (RJ4, TJ4, 4)) (ci := 11) (q0 := 0) C iJ5_ensureCapacityInternal_d00df_24 lu_J5_104 yc_J5_newCapacity_0f7a4 (c_J5_newCapacity_0f7a4 (q := q) (by omega) (by omega)) rfl rfl [] [] (by simp only [List.append_assoc, List.append_nil, List.nil_append]) rfl ⟨Nat.le_of_ble_eq_true rfl, Nat.le_of_ble_eq_true rfl⟩ (Nat.le_of_ble_eq_true rfl) (Nat.zero_add _).symm (Nat.zero_add _).symm ?_
    rintro _ _ ⟨rfl, rfl⟩
    refine J_st (.int (nI (sb_cap q cap)) :: .ref y :: .ref x :: []) rfl ?_
    refine J_ws (wSo Z x y n ++ arrB Z y cap b) (by simp only [List.append_assoc, List.append_nil, List.nil_append]) ?_
    refine J_aload_n C iJ5_ensureCapacityInternal_d00df_27 rfl rfl ?_
    refine J_get (.int 0) 0 C iJ5_ensureCapacityInternal_d00df_28 gf_J5_22 rfl rfl ?_
    refine J_ishl C iJ5_ensureCapacityInternal_d00df_31 ?_
    rw [sb_shl0]
    refine J_room (rc2 := 1 + 0) (rs2 := (sb_cap q cap) + (4002 - (sb_cap q cap))) (by omega) (by omega) ?_
    refine J_cSb (As := [.ref y, .int (nI (sb_cap q cap))]) (st := .ref x :: []) (rc2 := 0) (rs2 := (4002 - (sb_cap q cap))) (w0 := (arrB Z y cap b)) C iJ5_ensureCapacityInternal_d00df_32 lm_J5_108 yc_J7_copyOf_9075b ys_J7_copyOf_9075b (c_J7_copyOf_9075b (M := (sb_cap q cap)) hf (by omega) (by omega)) (wSo Z x y n) [] (by simp only [List.append_assoc, List.append_nil, List.nil_append]) rfl ⟨Nat.le_of_ble_eq_true rfl, Nat.le_of_ble_eq_true rfl⟩ (Nat.le_of_ble_eq_true rfl) rfl rfl ?_
    rintro _ _ ⟨q5, rfl, rfl⟩
    refine J_st (.ref q5 :: .ref x :: []) rfl ?_
    refine J_ws ((wSo Z x y n ++ arrB Z y cap b) ++ arrB Z q5 (sb_cap q cap) (va_cpy b (fun _ => 0) 0 0 cap)) (by simp only [List.append_assoc, List.append_nil, List.nil_append]) ?_
    refine J_put ((wSo Z x q5 n ++ arrB Z y cap b) ++ arrB Z q5 (sb_cap q cap) (va_cpy b (fun _ => 0) 0 0 cap)) 0 C iJ5_ensureCapacityInternal_d00df_35 pf_J5_15 rfl rfl rfl (Nat.le_of_ble_eq_true rfl) rfl ?_
    refine J_sub (wSo Z x q5 n ++ arrB Z q5 (sb_cap q cap) (va_cpy b (fun _ => 0) 0 0 cap)) [0, 2] rfl rfl ?_
    exact J_vret C E iJ5_ensureCapacityInternal_d00df_38 ⟨rfl, q5, _, rfl, sb_fitC hf sb_fit0, fun i hi => by rw [pk_cpy_in (by omega) (by omega)]; congr 1; omega⟩

set_option maxRecDepth 100000 in
set_option maxHeartbeats 4000000 in
theorem c_J5_inflateIfNeededFor_C {Z : GZ} {l : Launch} {x y i : Nat} {n : Int32} (hi : i < 43) : Ct Z l yJ5_inflateIfNeededFor_a7421 cJ5_inflateIfNeededFor_a7421 2 none (rmK 1) [.ref x, .ref (zsk Z i)] (wSo Z x y n) (fun v w => v = none ∧ w = (wSo Z x y n)) := by
  refine Ct.ofJ (own := RJ5) (nm := "inflateIfNeededFor") (lv0 := [(0, .ref x), (1, .ref (zsk Z i))]) (by decide) rfl rfl (Nat.le_of_ble_eq_true rfl) rfl (fun X hXl C E => ?_)
  subst hXl
  refine J_room (rc2 := 0) (rs2 := 0) (Nat.le_refl _) (Nat.le_refl _) ?_
  refine J_getsCS C iJ5_inflateIfNeededFor_a7421_0 (tsg_in (i := 1262) (by decide +kernel) rfl) ?_
  refine J_ifeq 21 C iJ5_inflateIfNeededFor_a7421_3 rfl (fun h3 => absurd h3 (by decide)) (fun h3 => ?_)
  refine J_aload_n C iJ5_inflateIfNeededFor_a7421_6 rfl rfl ?_
  refine J_get (.int 0) 0 C iJ5_inflateIfNeededFor_a7421_7 gf_J5_22 rfl rfl ?_
  refine J_aload_n C iJ5_inflateIfNeededFor_a7421_10 rfl rfl ?_
  refine J_cVCb (As := []) (st := .int 0 :: []) (rc2 := 0) (rs2 := 0) (w0 := []) C iJ5_inflateIfNeededFor_a7421_11 lm_J5_40 yc_J0_coder_7d493 yv_J0_coder_7d493 (c_J0_coder_C (i := i) hi) hi rfl [] (wSo Z x y n) (by simp only [List.append_assoc, List.append_nil, List.nil_append]) rfl ⟨Nat.le_of_ble_eq_true rfl, Nat.le_of_ble_eq_true rfl⟩ (Nat.le_of_ble_eq_true rfl) (Nat.zero_add _).symm (Nat.zero_add _).symm ?_
  rintro _ _ ⟨rfl, rfl⟩
  refine J_st (.int 0 :: .int 0 :: []) rfl ?_
  refine J_ws (wSo Z x y n) (by simp only [List.append_assoc, List.append_nil, List.nil_append]) ?_
  refine J_icmpeq 21 C iJ5_inflateIfNeededFor_a7421_14 rfl (fun h14 => ?_) (fun h14 => absurd (by decide) h14)
  exact J_vret C E iJ5_inflateIfNeededFor_a7421_21 ⟨rfl, rfl⟩

set_option maxRecDepth 100000 in
set_option maxHeartbeats 4000000 in
theorem c_J5_inflateIfNeededFor_D {Z : GZ} {l : Launch} {x y cap s t : Nat} {n : Int32} {b : Nat → Int32} : Ct Z l yJ5_inflateIfNeededFor_a7421 cJ5_inflateIfNeededFor_a7421 2 none (rmK 1) [.ref x, .ref s] ((wSo Z x y n ++ arrB Z y cap b) ++ wTo Z s t) (fun v w => v = none ∧ w = ((wSo Z x y n ++ arrB Z y cap b) ++ wTo Z s t)) := by
  refine Ct.ofJ (own := RJ5) (nm := "inflateIfNeededFor") (lv0 := [(0, .ref x), (1, .ref s)]) (by decide) rfl rfl (Nat.le_of_ble_eq_true rfl) rfl (fun X hXl C E => ?_)
  subst hXl
  refine J_room (rc2 := 0) (rs2 := 0) (Nat.le_refl _) (Nat.le_refl _) ?_
  refine J_getsCS C iJ5_inflateIfNeededFor_a7421_0 (tsg_in (i := 1262) (by decide +kernel) rfl) ?_
  refine J_ifeq 21 C iJ5_inflateIfNeededFor_a7421_3 rfl (fun h3 => absurd h3 (by decide)) (fun h3 => ?_)
  refine J_aload_n C iJ5_inflateIfNeededFor_a7421_6 rfl rfl ?_
  refine J_get (.int 0) 0 C iJ5_inflateIfNeededFor_a7421_7 gf_J5_22 rfl rfl ?_
  refine J_aload_n C iJ5_inflateIfNeededFor_a7421_10 rfl rfl ?_
  refine J_cVb (As := []) (st := .int 0 :: []) (rc2 := 0) (rs2 := 0) (w0 := (wTo Z s t)) (q0 := 0) C iJ5_inflateIfNeededFor_a7421_11 lm_J5_40 yc_J0_coder_7d493 yv_J0_coder_7d493 c_J0_coder_D rfl rfl rfl (wSo Z x y n ++ arrB Z y cap b) [] (by simp only [List.append_assoc, List.append_nil, List.nil_append]) rfl ⟨Nat.le_of_ble_eq_true rfl, Nat.le_of_ble_eq_true rfl⟩ (Nat.le_of_ble_eq_true rfl) (Nat.zero_add _).symm (Nat.zero_add _).symm ?_
  rintro _ _ ⟨rfl, rfl⟩
  refine J_st (.int 0 :: .int 0 :: []) rfl ?_
  refine J_ws ((wSo Z x y n ++ arrB Z y cap b) ++ wTo Z s t) (by simp only [List.append_assoc, List.append_nil, List.nil_append]) ?_
  refine J_icmpeq 21 C iJ5_inflateIfNeededFor_a7421_14 rfl (fun h14 => ?_) (fun h14 => absurd (by decide) h14)
  exact J_vret C E iJ5_inflateIfNeededFor_a7421_21 ⟨rfl, rfl⟩

set_option maxRecDepth 100000 in
set_option maxHeartbeats 4000000 in
theorem c_J5_putStringAt_C {Z : GZ} {l : Launch} {x y cap i p : Nat} {n : Int32} {b : Nat → Int32} (hi : i < 43) (h : p + wLen.getD i 0 ≤ cap) (hc : cap ≤ 65536) : Ct Z l yJ5_putStringAt_47b60 cJ5_putStringAt_47b60 3 none (rmK 2) [.ref x, .int (nI p), .ref (zsk Z i)] (wSo Z x y n ++ arrB Z y cap b) (fun v w => v = none ∧ w = (wSo Z x y n ++ arrB Z y cap (va_cpy (cBy i) b 0 p (wLen.getD i 0)))) := by
  refine Ct.ofJ (own := RJ5) (nm := "putStringAt") (lv0 := [(0, .ref x), (1, .int (nI p)), (2, .ref (zsk Z i))]) (by decide) rfl rfl (Nat.le_of_ble_eq_true rfl) rfl (fun X hXl C E => ?_)
  subst hXl
  refine J_room (rc2 := 0) (rs2 := 0) (Nat.le_refl _) (Nat.le_refl _) ?_
  refine J_aload_n C iJ5_putStringAt_47b60_0 rfl rfl ?_
  refine J_aload_n C iJ5_putStringAt_47b60_1 rfl rfl ?_
  refine J_cUb (As := [.ref (zsk Z i)]) (st := []) (rc2 := 0) (rs2 := 0) (w0 := (wSo Z x y n)) (r := (RJ4, TJ4, 4)) (ci := 11) (q0 := 0) C iJ5_putStringAt_47b60_2 lu_J5_397 yc_J5_inflateIfNeededFor_a7421 (c_J5_inflateIfNeededFor_C hi) rfl rfl [] (arrB Z y cap b) (by simp only [List.append_assoc, List.append_nil, List.nil_append]) rfl ⟨Nat.le_of_ble_eq_true rfl, Nat.le_of_ble_eq_true rfl⟩ (Nat.le_of_ble_eq_true rfl) (Nat.zero_add _).symm (Nat.zero_add _).symm ?_
  rintro _ _ ⟨rfl, rfl⟩
  refine J_st ([]) rfl ?_
  refine J_ws (wSo Z x y n ++ arrB Z y cap b) (by simp only [List.append_assoc, List.append_nil, List.nil_append]) ?_
  refine J_aload_n C iJ5_putStringAt_47b60_5 rfl rfl ?_
  refine J_aload_n C iJ5_putStringAt_47b60_6 rfl rfl ?_
  refine J_get (.ref y) 0 C iJ5_putStringAt_47b60_7 gf_J5_15 rfl rfl ?_
  refine J_iload_n C iJ5_putStringAt_47b60_10 rfl rfl ?_
  refine J_aload_n C iJ5_putStringAt_47b60_11 rfl rfl ?_
  refine J_get (.int 0) 0 C iJ5_putStringAt_47b60_12 gf_J5_22 rfl rfl ?_
  refine J_cVCb (As := [.ref y, .int (nI p), .int 0]) (st := []) (rc2 := 0) (rs2 := 0) (w0 := (arrB Z y cap b)) C iJ5_putStringAt_47b60_15 lm_J5_399 yc_J0_getBytes_840e7 yv_J0_getBytes_840e7 (c_J0_getBytes_C (i := i) (p := p) hi (by omega) (by omega)) hi rfl (wSo Z x y n) [] (by simp only [List.append_assoc, List.append_nil, List.nil_append]) rfl ⟨Nat.le_of_ble_eq_true rfl, Nat.le_of_ble_eq_true rfl⟩ (Nat.le_of_ble_eq_true rfl) (Nat.zero_add _).symm (Nat.zero_add _).symm ?_
  rintro _ _ ⟨rfl, rfl⟩
  refine J_st ([]) rfl ?_
  refine J_ws (wSo Z x y n ++ arrB Z y cap (va_cpy (cBy i) b 0 p (wLen.getD i 0))) (by simp only [List.append_assoc, List.append_nil, List.nil_append]) ?_
  exact J_vret C E iJ5_putStringAt_47b60_18 ⟨rfl, rfl⟩

set_option maxRecDepth 100000 in
set_option maxHeartbeats 4000000 in
theorem c_J5_putStringAt_D {Z : GZ} {l : Launch} {x y cap s t N p : Nat} {n : Int32} {b tb : Nat → Int32} (hft : sb_Fit tb) (h : p + N ≤ cap) (hc : cap ≤ 65536) : Ct Z l yJ5_putStringAt_47b60 cJ5_putStringAt_47b60 3 none (rmK 2) [.ref x, .int (nI p), .ref s] (((wSo Z x y n ++ arrB Z y cap b) ++ wTo Z s t) ++ arrB Z t N tb) (fun v w => v = none ∧ w = (((wSo Z x y n ++ arrB Z y cap (va_cpy tb b 0 p N)) ++ wTo Z s t) ++ arrB Z t N tb)) := by
  refine Ct.ofJ (own := RJ5) (nm := "putStringAt") (lv0 := [(0, .ref x), (1, .int (nI p)), (2, .ref s)]) (by decide) rfl rfl (Nat.le_of_ble_eq_true rfl) rfl (fun X hXl C E => ?_)
  subst hXl
  refine J_room (rc2 := 0) (rs2 := 0) (Nat.le_refl _) (Nat.le_refl _) ?_
  refine J_aload_n C iJ5_putStringAt_47b60_0 rfl rfl ?_
  refine J_aload_n C iJ5_putStringAt_47b60_1 rfl rfl ?_
  refine J_cUb (As := [.ref s]) (st := []) (rc2 := 0) (rs2 := 0) (w0 := ((wSo Z x y n ++ arrB Z y cap b) ++ wTo Z s t)) (r := (RJ4, TJ4, 4)) (ci := 11) (q0 := 0) C iJ5_putStringAt_47b60_2 lu_J5_397 yc_J5_inflateIfNeededFor_a7421 c_J5_inflateIfNeededFor_D rfl rfl [] (arrB Z t N tb) (by simp only [List.append_assoc, List.append_nil, List.nil_append]) rfl ⟨Nat.le_of_ble_eq_true rfl, Nat.le_of_ble_eq_true rfl⟩ (Nat.le_of_ble_eq_true rfl) (Nat.zero_add _).symm (Nat.zero_add _).symm ?_
  rintro _ _ ⟨rfl, rfl⟩
  refine J_st ([]) rfl ?_
  refine J_ws (((wSo Z x y n ++ arrB Z y cap b) ++ wTo Z s t) ++ arrB Z t N tb) (by simp only [List.append_assoc, List.append_nil, List.nil_append]) ?_
  refine J_aload_n C iJ5_putStringAt_47b60_5 rfl rfl ?_
  refine J_aload_n C iJ5_putStringAt_47b60_6 rfl rfl ?_
  refine J_get (.ref y) 0 C iJ5_putStringAt_47b60_7 gf_J5_15 rfl rfl ?_
  refine J_iload_n C iJ5_putStringAt_47b60_10 rfl rfl ?_
  refine J_aload_n C iJ5_putStringAt_47b60_11 rfl rfl ?_
  refine J_get (.int 0) 0 C iJ5_putStringAt_47b60_12 gf_J5_22 rfl rfl ?_
  refine J_cVb (As := [.ref y, .int (nI p), .int 0]) (st := []) (rc2 := 0) (rs2 := 0) (w0 := ((arrB Z y cap b ++ wTo Z s t) ++ arrB Z t N tb)) (q0 := 1) C iJ5_putStringAt_47b60_15 lm_J5_399 yc_J0_getBytes_840e7 yv_J0_getBytes_840e7 (c_J0_getBytes_D (p := p) hft (by omega) (by omega)) rfl rfl rfl (wSo Z x y n) [] (by simp only [List.append_assoc, List.append_nil, List.nil_append]) rfl ⟨Nat.le_of_ble_eq_true rfl, Nat.le_of_ble_eq_true rfl⟩ (Nat.le_of_ble_eq_true rfl) (Nat.zero_add _).symm (Nat.zero_add _).symm ?_
  rintro _ _ ⟨rfl, rfl⟩
  refine J_st ([]) rfl ?_
  refine J_ws (((wSo Z x y n ++ arrB Z y cap (va_cpy tb b 0 p N)) ++ wTo Z s t) ++ arrB Z t N tb) (by simp only [List.append_assoc, List.append_nil, List.nil_append]) ?_
  exact J_vret C E iJ5_putStringAt_47b60_18 ⟨rfl, rfl⟩

set_option maxRecDepth 100000 in
set_option maxHeartbeats 4000000 in
theorem c_J5_append_C {Z : GZ} {l : Launch} {x y cap : Nat} {T : List Nat} {b : Nat → Int32} (hT : SbT T cap b) {i : Nat} (hi : i < 43) (hl : T.length + wLen.getD i 0 ≤ 2000) : Ct Z l yJ5_append_cf1ce cJ5_append_cf1ce 3 (some (.object "java/lang/AbstractStringBuilder")) (rmM 5 1 4002) [.ref x, .ref (zsk Z i)] (wSo Z x y (nI T.length) ++ arrB Z y cap b) (fun v w => v = some (.ref x) ∧ ∃ (y' cap' : Nat) (b' : Nat → Int32), w = ((wSo Z x y' (nI (T ++ cTx i).length)) ++ arrB Z y' cap' b') ∧ SbT (T ++ cTx i) cap' b') := by
  refine Ct.ofJ (own := RJ5) (nm := "append") (lv0 := [(0, .ref x), (1, .ref (zsk Z i))]) (by decide) rfl rfl (Nat.le_of_ble_eq_true rfl) rfl (fun X hXl C E => ?_)
  subst hXl
  refine J_room (rc2 := 1) (rs2 := 4002) (Nat.le_refl _) (Nat.le_refl _) ?_
  have hl1 := hT.1
  have hl2 := hT.2.1
  have hl3 := sb_cap_ge (T.length + wLen.getD i 0) cap
  have hl4 := cap_4 (m := cap) hl hT.2.1
  refine J_aload_n C iJ5_append_cf1ce_0 rfl rfl ?_
  refine J_ifnonnull 9 C iJ5_append_cf1ce_1 rfl ?_
  refine J_aload_n C iJ5_append_cf1ce_9 rfl rfl ?_
  refine J_cVCb (As := []) (st := []) (rc2 := 1) (rs2 := 4002) (w0 := []) C iJ5_append_cf1ce_10 lm_J5_32 yc_J0_length_8abf5 yv_J0_length_8abf5 (c_J0_length_C (i := i) hi) hi rfl [] (wSo Z x y (nI T.length) ++ arrB Z y cap b) (by simp only [List.append_assoc, List.append_nil, List.nil_append]) rfl ⟨Nat.le_of_ble_eq_true rfl, Nat.le_of_ble_eq_true rfl⟩ (Nat.le_of_ble_eq_true rfl) (Nat.zero_add _).symm (Nat.zero_add _).symm ?_
  rintro _ _ ⟨rfl, rfl⟩
  refine J_st (.int (nI (wLen.getD i 0)) :: []) rfl ?_
  refine J_ws (wSo Z x y (nI T.length) ++ arrB Z y cap b) (by simp only [List.append_assoc, List.append_nil, List.nil_append]) ?_
  refine J_istore_n [(2, .int (nI (wLen.getD i 0))), (0, .ref x), (1, .ref (zsk Z i))] C iJ5_append_cf1ce_13 rfl (by decide) rfl ?_
  refine J_aload_n C iJ5_append_cf1ce_14 rfl rfl ?_
  refine J_aload_n C iJ5_append_cf1ce_15 rfl rfl ?_
  refine J_get (.int (nI T.length)) 0 C iJ5_append_cf1ce_16 gf_J5_79 rfl rfl ?_
  refine J_iload_n C iJ5_append_cf1ce_19 rfl rfl ?_
  refine J_iadd C iJ5_append_cf1ce_20 ?_
  rw [show (nI T.length) + (nI (wLen.getD i 0)) = nI (T.length + (wLen.getD i 0)) from nI_add _ _]
  refine J_room (rc2 := 1 + 0) (rs2 := 4002 + 0) (by omega) (by omega) ?_
  refine J_cUb (As := [.int (nI (T.length + (wLen.getD i 0)))]) (st := []) (rc2 := 0) (rs2 := 0) (w0 := (wSo Z x y (nI T.length) ++ arrB Z y cap b)) (r := (RJ4, TJ4, 4)) (ci := 11) (q0 := 0) C iJ5_append_cf1ce_21 lu_J5_100 yc_J5_ensureCapacityInternal_d00df (c_J5_ensureCapacityInternal_d00df (q := (T.length + (wLen.getD i 0))) hT.2.2.1 (by omega) (by omega)) rfl rfl [] [] (by simp only [List.append_assoc, List.append_nil, List.nil_append]) rfl ⟨Nat.le_of_ble_eq_true rfl, Nat.le_of_ble_eq_true rfl⟩ (Nat.le_of_ble_eq_true rfl) rfl rfl ?_
  rintro _ _ ⟨rfl, y5, b5, rfl, hf5, hb5⟩
  refine J_st ([]) rfl ?_
  refine J_ws (wSo Z x y5 (nI T.length) ++ arrB Z y5 (sb_cap (T.length + (wLen.getD i 0)) cap) b5) (by simp only [List.append_assoc, List.append_nil, List.nil_append]) ?_
  refine J_aload_n C iJ5_append_cf1ce_24 rfl rfl ?_
  refine J_aload_n C iJ5_append_cf1ce_25 rfl rfl ?_
  refine J_get (.int (nI T.length)) 0 C iJ5_append_cf1ce_26 gf_J5_79 rfl rfl ?_
  refine J_aload_n C iJ5_append_cf1ce_29 rfl rfl ?_
  refine J_cUb (As := [.int (nI T.length), .ref (zsk Z i)]) (st := []) (rc2 := 0) (rs2 := 0) (w0 := (wSo Z x y5 (nI T.length) ++ arrB Z y5 (sb_cap (T.length + (wLen.getD i 0)) cap) b5)) (r := (RJ4, TJ4, 4)) (ci := 11) (q0 := 0) C iJ5_append_cf1ce_30 lu_J5_208 yc_J5_putStringAt_47b60 (c_J5_putStringAt_C (p := T.length) hi (by omega) (by omega)) rfl rfl [] [] (by simp only [List.append_assoc, List.append_nil, List.nil_append]) rfl ⟨Nat.le_of_ble_eq_true rfl, Nat.le_of_ble_eq_true rfl⟩ (Nat.le_of_ble_eq_true rfl) (Nat.zero_add _).symm (Nat.zero_add _).symm ?_
  rintro _ _ ⟨rfl, rfl⟩
  refine J_st ([]) rfl ?_
  refine J_ws (wSo Z x y5 (nI T.length) ++ arrB Z y5 (sb_cap (T.length + (wLen.getD i 0)) cap) (va_cpy (cBy i) b5 0 T.length (wLen.getD i 0))) (by simp only [List.append_assoc, List.append_nil, List.nil_append]) ?_
  refine J_aload_n C iJ5_append_cf1ce_33 rfl rfl ?_
  refine J_dup C iJ5_append_cf1ce_34 rfl ?_
  refine J_get (.int (nI T.length)) 0 C iJ5_append_cf1ce_35 gf_J5_79 rfl rfl ?_
  refine J_iload_n C iJ5_append_cf1ce_38 rfl rfl ?_
  refine J_iadd C iJ5_append_cf1ce_39 ?_
  rw [show (nI T.length) + (nI (wLen.getD i 0)) = nI (T.length + (wLen.getD i 0)) from nI_add _ _]
  refine J_put (wSo Z x y5 (nI (T.length + (wLen.getD i 0))) ++ arrB Z y5 (sb_cap (T.length + (wLen.getD i 0)) cap) (va_cpy (cBy i) b5 0 T.length (wLen.getD i 0))) 0 C iJ5_append_cf1ce_40 pf_J5_79 rfl rfl rfl (Nat.le_of_ble_eq_true rfl) rfl ?_
  refine J_aload_n C iJ5_append_cf1ce_43 rfl rfl ?_
  exact J_aret C E iJ5_append_cf1ce_44 (Or.inl ⟨_, rfl⟩) ⟨rfl, y5, _, _, by rw [List.length_append, cTx_len i hi], by have h9 := app_ok hT (cTx_ok i hi) hf5 hb5 (by rw [cTx_len i hi]; exact hl); rw [cTx_len i hi] at h9; exact h9⟩

set_option maxRecDepth 100000 in
set_option maxHeartbeats 4000000 in
theorem c_J5_append_D {Z : GZ} {l : Launch} {x y cap : Nat} {T : List Nat} {b : Nat → Int32} (hT : SbT T cap b) {s t : Nat} {S : List Nat} {tb : Nat → Int32} (hS : TxT S tb) (hl : T.length + S.length ≤ 2000) : Ct Z l yJ5_append_cf1ce cJ5_append_cf1ce 3 (some (.object "java/lang/AbstractStringBuilder")) (rmM 5 1 4002) [.ref x, .ref s] (((wSo Z x y (nI T.length) ++ arrB Z y cap b) ++ wTo Z s t) ++ arrB Z t S.length tb) (fun v w => v = some (.ref x) ∧ ∃ (y' cap' : Nat) (b' : Nat → Int32), w = ((((wSo Z x y' (nI (T ++ S).length)) ++ arrB Z y' cap' b') ++ wTo Z s t) ++ arrB Z t S.length tb) ∧ SbT (T ++ S) cap' b') := by
  refine Ct.ofJ (own := RJ5) (nm := "append") (lv0 := [(0, .ref x), (1, .ref s)]) (by decide) rfl rfl (Nat.le_of_ble_eq_true rfl) rfl (fun X hXl C E => ?_)
  subst hXl
  refine J_room (rc2 := 1) (rs2 := 4002) (Nat.le_refl _) (Nat.le_refl _) ?_
  have hl1 := hT.1
  have hl2 := hT.2.1
  have hl3 := sb_cap_ge (T.length + S.length) cap
  have hl4 := cap_4 (m := cap) hl hT.2.1
  have hft := hS.1
  refine J_aload_n C iJ5_append_cf1ce_0 rfl rfl ?_
  refine J_ifnonnull 9 C iJ5_append_cf1ce_1 rfl ?_
  refine J_aload_n C iJ5_append_cf1ce_9 rfl rfl ?_
  refine J_cVb (As := []) (st := []) (rc2 := 1) (rs2 := 4002) (w0 := (wTo Z s t ++ arrB Z t S.length tb)) (q0 := 0) C iJ5_append_cf1ce_10 lm_J5_32 yc_J0_length_8abf5 yv_J0_length_8abf5 c_J0_length_D rfl rfl rfl (wSo Z x y (nI T.length) ++ arrB Z y cap b) [] (by simp only [List.append_assoc, List.append_nil, List.nil_append]) rfl ⟨Nat.le_of_ble_eq_true rfl, Nat.le_of_ble_eq_true rfl⟩ (Nat.le_of_ble_eq_true rfl) (Nat.zero_add _).symm (Nat.zero_add _).symm ?_
  rintro _ _ ⟨rfl, rfl⟩
  refine J_st (.int (nI S.length) :: []) rfl ?_
  refine J_ws (((wSo Z x y (nI T.length) ++ arrB Z y cap b) ++ wTo Z s t) ++ arrB Z t S.length tb) (by simp only [List.append_assoc, List.append_nil, List.nil_append]) ?_
  refine J_istore_n [(2, .int (nI S.length)), (0, .ref x), (1, .ref s)] C iJ5_append_cf1ce_13 rfl (by decide) rfl ?_
  refine J_aload_n C iJ5_append_cf1ce_14 rfl rfl ?_
  refine J_aload_n C iJ5_append_cf1ce_15 rfl rfl ?_
  refine J_get (.int (nI T.length)) 0 C iJ5_append_cf1ce_16 gf_J5_79 rfl rfl ?_
  refine J_iload_n C iJ5_append_cf1ce_19 rfl rfl ?_
  refine J_iadd C iJ5_append_cf1ce_20 ?_
  rw [show (nI T.length) + (nI S.length) = nI (T.length + S.length) from nI_add _ _]
  refine J_room (rc2 := 1 + 0) (rs2 := 4002 + 0) (by omega) (by omega) ?_
  refine J_cUb (As := [.int (nI (T.length + S.length))]) (st := []) (rc2 := 0) (rs2 := 0) (w0 := (wSo Z x y (nI T.length) ++ arrB Z y cap b)) (r := (RJ4, TJ4, 4)) (ci := 11) (q0 := 0) C iJ5_append_cf1ce_21 lu_J5_100 yc_J5_ensureCapacityInternal_d00df (c_J5_ensureCapacityInternal_d00df (q := (T.length + S.length)) hT.2.2.1 (by omega) (by omega)) rfl rfl [] (wTo Z s t ++ arrB Z t S.length tb) (by simp only [List.append_assoc, List.append_nil, List.nil_append]) rfl ⟨Nat.le_of_ble_eq_true rfl, Nat.le_of_ble_eq_true rfl⟩ (Nat.le_of_ble_eq_true rfl) rfl rfl ?_
  rintro _ _ ⟨rfl, y5, b5, rfl, hf5, hb5⟩
  refine J_st ([]) rfl ?_
  refine J_ws (((wSo Z x y5 (nI T.length) ++ arrB Z y5 (sb_cap (T.length + S.length) cap) b5) ++ wTo Z s t) ++ arrB Z t S.length tb) (by simp only [List.append_assoc, List.append_nil, List.nil_append]) ?_
  refine J_aload_n C iJ5_append_cf1ce_24 rfl rfl ?_
  refine J_aload_n C iJ5_append_cf1ce_25 rfl rfl ?_
  refine J_get (.int (nI T.length)) 0 C iJ5_append_cf1ce_26 gf_J5_79 rfl rfl ?_
  refine J_aload_n C iJ5_append_cf1ce_29 rfl rfl ?_
  refine J_cUb (As := [.int (nI T.length), .ref s]) (st := []) (rc2 := 0) (rs2 := 0) (w0 := (((wSo Z x y5 (nI T.length) ++ arrB Z y5 (sb_cap (T.length + S.length) cap) b5) ++ wTo Z s t) ++ arrB Z t S.length tb)) (r := (RJ4, TJ4, 4)) (ci := 11) (q0 := 0) C iJ5_append_cf1ce_30 lu_J5_208 yc_J5_putStringAt_47b60 (c_J5_putStringAt_D (p := T.length) hft (by omega) (by omega)) rfl rfl [] [] (by simp only [List.append_assoc, List.append_nil, List.nil_append]) rfl ⟨Nat.le_of_ble_eq_true rfl, Nat.le_of_ble_eq_true rfl⟩ (Nat.le_of_ble_eq_true rfl) (Nat.zero_add _).symm (Nat.zero_add _).symm ?_
  rintro _ _ ⟨rfl, rfl⟩
  refine J_st ([]) rfl ?_
  refine J_ws (((wSo Z x y5 (nI T.length) ++ arrB Z y5 (sb_cap (T.length + S.length) cap) (va_cpy tb b5 0 T.length S.length)) ++ wTo Z s t) ++ arrB Z t S.length tb) (by simp only [List.append_assoc, List.append_nil, List.nil_append]) ?_
  refine J_aload_n C iJ5_append_cf1ce_33 rfl rfl ?_
  refine J_dup C iJ5_append_cf1ce_34 rfl ?_
  refine J_get (.int (nI T.length)) 0 C iJ5_append_cf1ce_35 gf_J5_79 rfl rfl ?_
  refine J_iload_n C iJ5_append_cf1ce_38 rfl rfl ?_
  refine J_iadd C iJ5_append_cf1ce_39 ?_
  rw [show (nI T.length) + (nI S.length) = nI (T.length + S.length) from nI_add _ _]
  refine J_put (((wSo Z x y5 (nI (T.length + S.length)) ++ arrB Z y5 (sb_cap (T.length + S.length) cap) (va_cpy tb b5 0 T.length S.length)) ++ wTo Z s t) ++ arrB Z t S.length tb) 0 C iJ5_append_cf1ce_40 pf_J5_79 rfl rfl rfl (Nat.le_of_ble_eq_true rfl) rfl ?_
  refine J_aload_n C iJ5_append_cf1ce_43 rfl rfl ?_
  exact J_aret C E iJ5_append_cf1ce_44 (Or.inl ⟨_, rfl⟩) ⟨rfl, y5, _, _, by rw [List.length_append], app_ok hT hS hf5 hb5 hl⟩

set_option maxRecDepth 100000 in
set_option maxHeartbeats 4000000 in
theorem c_J4_append_C {Z : GZ} {l : Launch} {x y cap : Nat} {T : List Nat} {b : Nat → Int32} (hT : SbT T cap b) {i : Nat} (hi : i < 43) (hl : T.length + (cTx i).length ≤ 2000) : Ct Z l yJ4_append_15ec4 cJ4_append_15ec4 2 (some (.object "java/lang/StringBuilder")) (rmM 6 1 4002) [.ref x, .ref (zsk Z i)] (wSo Z x y (nI T.length) ++ arrB Z y cap b) (fun v w => v = some (.ref x) ∧ ∃ (y' cap' : Nat) (b' : Nat → Int32), w = ((wSo Z x y' (nI (T ++ cTx i).length)) ++ arrB Z y' cap' b') ∧ SbT (T ++ cTx i) cap' b') := by
  refine Ct.ofJ (own := RJ4) (nm := "append") (lv0 := [(0, .ref x), (1, .ref (zsk Z i))]) (by decide) rfl rfl (Nat.le_of_ble_eq_true rfl) rfl (fun X hXl C E => ?_)
  subst hXl
  refine J_room (rc2 := 1) (rs2 := 4002) (Nat.le_refl _) (Nat.le_refl _) ?_
  refine J_aload_n C iJ4_append_15ec4_0 rfl rfl ?_
  refine J_aload_n C iJ4_append_15ec4_1 rfl rfl ?_
  refine J_room (rc2 := 1 + 0) (rs2 := 4002 + 0) (by omega) (by omega) ?_
  refine J_cSUb (As := [.ref (zsk Z i)]) (st := []) (rc2 := 0) (rs2 := 0) (w0 := (wSo Z x y (nI T.length) ++ arrB Z y cap b)) (r := (RJ4, TJ4, 4)) (ci := 11) (q0 := 0) C iJ4_append_15ec4_2 lsu_J4_29 yc_J5_append_cf1ce (c_J5_append_C hT hi (by rw [← cTx_len i hi]; exact hl)) rfl rfl [] [] (by simp only [List.append_assoc, List.append_nil, List.nil_append]) rfl ⟨Nat.le_of_ble_eq_true rfl, Nat.le_of_ble_eq_true rfl⟩ (Nat.le_of_ble_eq_true rfl) rfl rfl ?_
  rintro _ _ ⟨rfl, y6, c6, b6, rfl, hT6⟩
  refine J_st (.ref x :: []) rfl ?_
  refine J_ws ((wSo Z x y6 (nI (T ++ cTx i).length)) ++ arrB Z y6 c6 b6) (by simp only [List.append_assoc, List.append_nil, List.nil_append]) ?_
  refine J_pop C iJ4_append_15ec4_5 rfl ?_
  refine J_aload_n C iJ4_append_15ec4_6 rfl rfl ?_
  exact J_aret C E iJ4_append_15ec4_7 (Or.inl ⟨_, rfl⟩) ⟨rfl, y6, c6, b6, rfl, hT6⟩

set_option maxRecDepth 100000 in
set_option maxHeartbeats 4000000 in
theorem c_J4_append_D {Z : GZ} {l : Launch} {x y cap : Nat} {T : List Nat} {b : Nat → Int32} (hT : SbT T cap b) {s t : Nat} {S : List Nat} {tb : Nat → Int32} (hS : TxT S tb) (hl : T.length + S.length ≤ 2000) : Ct Z l yJ4_append_15ec4 cJ4_append_15ec4 2 (some (.object "java/lang/StringBuilder")) (rmM 6 1 4002) [.ref x, .ref s] (((wSo Z x y (nI T.length) ++ arrB Z y cap b) ++ wTo Z s t) ++ arrB Z t S.length tb) (fun v w => v = some (.ref x) ∧ ∃ (y' cap' : Nat) (b' : Nat → Int32), w = ((((wSo Z x y' (nI (T ++ S).length)) ++ arrB Z y' cap' b') ++ wTo Z s t) ++ arrB Z t S.length tb) ∧ SbT (T ++ S) cap' b') := by
  refine Ct.ofJ (own := RJ4) (nm := "append") (lv0 := [(0, .ref x), (1, .ref s)]) (by decide) rfl rfl (Nat.le_of_ble_eq_true rfl) rfl (fun X hXl C E => ?_)
  subst hXl
  refine J_room (rc2 := 1) (rs2 := 4002) (Nat.le_refl _) (Nat.le_refl _) ?_
  refine J_aload_n C iJ4_append_15ec4_0 rfl rfl ?_
  refine J_aload_n C iJ4_append_15ec4_1 rfl rfl ?_
  refine J_room (rc2 := 1 + 0) (rs2 := 4002 + 0) (by omega) (by omega) ?_
  refine J_cSUb (As := [.ref s]) (st := []) (rc2 := 0) (rs2 := 0) (w0 := (((wSo Z x y (nI T.length) ++ arrB Z y cap b) ++ wTo Z s t) ++ arrB Z t S.length tb)) (r := (RJ4, TJ4, 4)) (ci := 11) (q0 := 0) C iJ4_append_15ec4_2 lsu_J4_29 yc_J5_append_cf1ce (c_J5_append_D hT hS hl) rfl rfl [] [] (by simp only [List.append_assoc, List.append_nil, List.nil_append]) rfl ⟨Nat.le_of_ble_eq_true rfl, Nat.le_of_ble_eq_true rfl⟩ (Nat.le_of_ble_eq_true rfl) rfl rfl ?_
  rintro _ _ ⟨rfl, y6, c6, b6, rfl, hT6⟩
  refine J_st (.ref x :: []) rfl ?_
  refine J_ws ((((wSo Z x y6 (nI (T ++ S).length)) ++ arrB Z y6 c6 b6) ++ wTo Z s t) ++ arrB Z t S.length tb) (by simp only [List.append_assoc, List.append_nil, List.nil_append]) ?_
  refine J_pop C iJ4_append_15ec4_5 rfl ?_
  refine J_aload_n C iJ4_append_15ec4_6 rfl rfl ?_
  exact J_aret C E iJ4_append_15ec4_7 (Or.inl ⟨_, rfl⟩) ⟨rfl, y6, c6, b6, rfl, hT6⟩

