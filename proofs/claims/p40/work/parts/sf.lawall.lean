set_option maxRecDepth 100000 in
set_option maxHeartbeats 4000000 in
theorem law_all {Z : GZ} {X : CX} {Q : State → Prop} (C : Cx Z X cL_law 29 RL) (hl : (cL X).stackTraces = false) (hL : zms Z 4 ≤ 260) (hT8 : ∀ i, (lwT Z (toM Z)).getD i 32 < 128) (hR : RdOk Z (lwT Z (toM Z)).length (tbT (lwT Z (toM Z)) (((lwT Z (toM Z)).length + 19) / 20))) (fin : ∀ (rc rs : Nat) (lv : List (Nat × Value)) (w : va_W), Jd Z X room_1 29 Q rc rs 1175 lv [.int 1] w) : Jd Z X room_1 29 Q 600086 7301442 0 [(0, .ref (zms Z 3))] [] [] := by
  have hto := toN_in Z
  have htm := toM_in Z
  refine J_room (rc2 := 1 + 600085) (rs2 := 8 + 7301434) (by omega) (by omega) ?_
  refine J_new (ci := 7) [.null, .null, .null, .null, .null, .null, .null, .int 0] tyX8 C iL_law_0 rfl lay_X8 tyX8_ok (tsg_in (i := 63) (by decide +kernel) rfl) (tsg_in (i := 64) (by decide +kernel) rfl) (tsg_in (i := 34) (by decide +kernel) rfl) df_X8 (fun n1 => ?_)
  refine J_ws (wX8 Z n1) rfl ?_
  refine J_dup C iL_law_3 rfl ?_
  refine J_room (rc2 := 74 + 600011) (rs2 := 6798 + 7294636) (by omega) (by omega) ?_
  refine J_cIb (As := []) (st := .ref n1 :: []) (rc2 := 600011) (rs2 := 7294636) (w0 := (wX8 Z n1)) C iL_law_4 lm_L_162 yc_X8_init yi_X8_init n_X8_init [] [] (by simp only [List.append_assoc, List.append_nil, List.nil_append]) rfl ⟨Nat.le_of_ble_eq_true rfl, Nat.le_of_ble_eq_true rfl⟩ (Nat.le_of_ble_eq_true rfl) rfl rfl ?_
  rintro _ w0_ ⟨rfl, x, rfl, hC0⟩
  refine J_st (.ref (x 0) :: []) rfl ?_
  refine J_ws (w0_) (by simp only [List.append_assoc, List.append_nil, List.nil_append]) ?_
  refine J_st (.ref (x 0) :: []) rfl ?_
  refine J_astore_n [(1, .ref (x 0)), (0, .ref (zms Z 3))] C iL_law_7 rfl (by decide) rfl ?_
  refine J_room (rc2 := 1 + 600010) (rs2 := 4 + 7294632) (by omega) (by omega) ?_
  refine J_new (ci := 11) [.null, .int 0, .int 0, .int 0] tyJ4 C iL_law_8 rfl lay_J4 tyJ4_ok (tsg_in (i := 1506) (by decide +kernel) rfl) (tsg_in (i := 1411) (by decide +kernel) rfl) (tsg_in (i := 45) (by decide +kernel) rfl) df_J4 (fun n2 => ?_)
  refine J_ws (w0_ ++ wS0 Z n2) rfl ?_
  refine J_dup C iL_law_11 rfl ?_
  refine J_room (rc2 := 1 + 600009) (rs2 := 16 + 7294616) (by omega) (by omega) ?_
  refine J_cIb (As := []) (st := .ref n2 :: []) (rc2 := 600009) (rs2 := 7294616) (w0 := (wS0 Z n2)) C iL_law_12 lm_L_129 yc_J4_init_da8c8 yi_J4_init_da8c8 c_J4_init_da8c8 (w0_) [] (by simp only [List.append_assoc, List.append_nil, List.nil_append]) rfl ⟨Nat.le_of_ble_eq_true rfl, Nat.le_of_ble_eq_true rfl⟩ (Nat.le_of_ble_eq_true rfl) rfl rfl ?_
  rintro _ _ ⟨rfl, q1, rfl⟩
  refine J_st (.ref n2 :: []) rfl ?_
  refine J_ws ((w0_ ++ wSo Z n2 q1 0) ++ arrB Z q1 16 (fun _ => 0)) (by simp only [List.append_assoc, List.append_nil, List.nil_append]) ?_
  refine J_astore_n [(2, .ref n2), (1, .ref (x 0)), (0, .ref (zms Z 3))] C iL_law_15 rfl (by decide) rfl ?_
  refine J_aload_n C iL_law_16 rfl rfl ?_
  refine J_bipush 9 C iL_law_17 rfl ?_
  refine J_aload_n C iL_law_19 rfl rfl ?_
  refine J_room (rc2 := 2100 + 597909) (rs2 := 3160000 + 4134616) (by omega) (by omega) ?_
  refine J_cSb (As := [.ref (zms Z 3), .int 9, .ref n2]) (st := []) (rc2 := 597909) (rs2 := 4134616) (w0 := (wSo Z n2 q1 0 ++ arrB Z q1 16 (fun _ => 0))) C iL_law_20 lm_L_163 yc_L_told ys_L_told (c_L_told hL sb_new) (w0_) [] (by simp only [List.append_assoc, List.append_nil, List.nil_append]) rfl ⟨Nat.le_of_ble_eq_true rfl, Nat.le_of_ble_eq_true rfl⟩ (Nat.le_of_ble_eq_true rfl) rfl rfl ?_
  rintro _ _ ⟨s, hA, lA, oA, tA, eA, y2, cap2, rw, lr, fo, ft, fe, L, bb2, rfl, rfl, hb2, tr⟩
  refine J_st (.ref s :: []) rfl ?_
  refine J_ws ((((((w0_ ++ wSim Z s (toN Z) (toM Z) hA lA oA tA eA (fun j => some (rw j)) (fun j => some (lr j)) fo ft fe 0 0) ++ wRw Z (toN Z) rw (toP Z) (toH Z) zzN zzN) ++ wLr Z (toM Z) lr (toK Z) (toV Z)) ++ wPl Z L) ++ wSo Z n2 y2 (nI (lwT Z (toM Z)).length)) ++ arrB Z y2 cap2 bb2) (by simp only [List.append_assoc, List.append_nil, List.nil_append]) ?_
  refine J_astore_n [(3, .ref s), (2, .ref n2), (1, .ref (x 0)), (0, .ref (zms Z 3))] C iL_law_23 rfl (by decide) rfl ?_
  refine J_aload_n C iL_law_24 rfl rfl ?_
  refine J_aload_n C iL_law_25 rfl rfl ?_
  refine J_room (rc2 := 2 + 597907) (rs2 := 2004 + 4132612) (by omega) (by omega) ?_
  refine J_cVb (As := []) (st := .ref (x 0) :: []) (rc2 := 597907) (rs2 := 4132612) (w0 := (wSo Z n2 y2 (nI (lwT Z (toM Z)).length) ++ arrB Z y2 cap2 bb2)) (q0 := 0) C iL_law_26 lm_L_132 yc_J4_toString_0e30d yv_J4_toString_0e30d (c_J4_toString_0e30d (T := (lwT Z (toM Z))) hb2 (by have := lwT_len Z (toM Z); omega)) rfl rfl rfl ((((w0_ ++ wSim Z s (toN Z) (toM Z) hA lA oA tA eA (fun j => some (rw j)) (fun j => some (lr j)) fo ft fe 0 0) ++ wRw Z (toN Z) rw (toP Z) (toH Z) zzN zzN) ++ wLr Z (toM Z) lr (toK Z) (toV Z)) ++ wPl Z L) [] (by simp only [List.append_assoc, List.append_nil, List.nil_append]) rfl ⟨Nat.le_of_ble_eq_true rfl, Nat.le_of_ble_eq_true rfl⟩ (Nat.le_of_ble_eq_true rfl) rfl rfl ?_
  rintro _ _ ⟨s2, t2, b2, rfl, rfl, h2⟩
  refine J_st (.ref s2 :: .ref (x 0) :: []) rfl ?_
  refine J_ws ((((((((w0_ ++ wSim Z s (toN Z) (toM Z) hA lA oA tA eA (fun j => some (rw j)) (fun j => some (lr j)) fo ft fe 0 0) ++ wRw Z (toN Z) rw (toP Z) (toH Z) zzN zzN) ++ wLr Z (toM Z) lr (toK Z) (toV Z)) ++ wPl Z L) ++ wTo Z s2 t2) ++ wSo Z n2 y2 (nI (lwT Z (toM Z)).length)) ++ arrB Z y2 cap2 bb2) ++ arrB Z t2 ((lwT Z (toM Z)).length) b2) (by simp only [List.append_assoc, List.append_nil, List.nil_append]) ?_
  refine J_perm ((((((((w0_ ++ wSim Z s (toN Z) (toM Z) hA lA oA tA eA (fun j => some (rw j)) (fun j => some (lr j)) fo ft fe 0 0) ++ wRw Z (toN Z) rw (toP Z) (toH Z) zzN zzN) ++ wLr Z (toM Z) lr (toK Z) (toV Z)) ++ wPl Z L) ++ wSo Z n2 y2 (nI (lwT Z (toM Z)).length)) ++ wTo Z s2 t2) ++ arrB Z y2 cap2 bb2) ++ arrB Z t2 ((lwT Z (toM Z)).length) b2) (((sw2 _ _ _).append_right _).append_right _) ?_
  refine J_perm ((((((((w0_ ++ wSim Z s (toN Z) (toM Z) hA lA oA tA eA (fun j => some (rw j)) (fun j => some (lr j)) fo ft fe 0 0) ++ wRw Z (toN Z) rw (toP Z) (toH Z) zzN zzN) ++ wLr Z (toM Z) lr (toK Z) (toV Z)) ++ wPl Z L) ++ wSo Z n2 y2 (nI (lwT Z (toM Z)).length)) ++ arrB Z y2 cap2 bb2) ++ wTo Z s2 t2) ++ arrB Z t2 ((lwT Z (toM Z)).length) b2) ((sw2 _ _ _).append_right _) ?_
  refine J_perm ((((((((w0_ ++ wSim Z s (toN Z) (toM Z) hA lA oA tA eA (fun j => some (rw j)) (fun j => some (lr j)) fo ft fe 0 0) ++ wRw Z (toN Z) rw (toP Z) (toH Z) zzN zzN) ++ wLr Z (toM Z) lr (toK Z) (toV Z)) ++ wPl Z L) ++ wSo Z n2 y2 (nI (lwT Z (toM Z)).length)) ++ arrB Z y2 cap2 bb2) ++ arrB Z t2 ((lwT Z (toM Z)).length) b2) ++ wTo Z s2 t2) (sw2 _ _ _) ?_
  refine J_perm ((((((((w0_ ++ wSim Z s (toN Z) (toM Z) hA lA oA tA eA (fun j => some (rw j)) (fun j => some (lr j)) fo ft fe 0 0) ++ wRw Z (toN Z) rw (toP Z) (toH Z) zzN zzN) ++ wLr Z (toM Z) lr (toK Z) (toV Z)) ++ wPl Z L) ++ wSo Z n2 y2 (nI (lwT Z (toM Z)).length)) ++ arrB Z y2 cap2 bb2) ++ wTo Z s2 t2) ++ arrB Z t2 ((lwT Z (toM Z)).length) b2) (sw2 _ _ _) ?_
  refine J_perm ((((((((wSim Z s (toN Z) (toM Z) hA lA oA tA eA (fun j => some (rw j)) (fun j => some (lr j)) fo ft fe 0 0 ++ w0_) ++ wRw Z (toN Z) rw (toP Z) (toH Z) zzN zzN) ++ wLr Z (toM Z) lr (toK Z) (toV Z)) ++ wPl Z L) ++ wSo Z n2 y2 (nI (lwT Z (toM Z)).length)) ++ arrB Z y2 cap2 bb2) ++ wTo Z s2 t2) ++ arrB Z t2 ((lwT Z (toM Z)).length) b2) (((((((List.perm_append_comm.append_right _).append_right _).append_right _).append_right _).append_right _).append_right _).append_right _) ?_
  refine J_perm ((((((((wSim Z s (toN Z) (toM Z) hA lA oA tA eA (fun j => some (rw j)) (fun j => some (lr j)) fo ft fe 0 0 ++ wRw Z (toN Z) rw (toP Z) (toH Z) zzN zzN) ++ w0_) ++ wLr Z (toM Z) lr (toK Z) (toV Z)) ++ wPl Z L) ++ wSo Z n2 y2 (nI (lwT Z (toM Z)).length)) ++ arrB Z y2 cap2 bb2) ++ wTo Z s2 t2) ++ arrB Z t2 ((lwT Z (toM Z)).length) b2) (((((((sw2 _ _ _).append_right _).append_right _).append_right _).append_right _).append_right _).append_right _) ?_
  refine J_perm ((((((((wSim Z s (toN Z) (toM Z) hA lA oA tA eA (fun j => some (rw j)) (fun j => some (lr j)) fo ft fe 0 0 ++ wRw Z (toN Z) rw (toP Z) (toH Z) zzN zzN) ++ wLr Z (toM Z) lr (toK Z) (toV Z)) ++ w0_) ++ wPl Z L) ++ wSo Z n2 y2 (nI (lwT Z (toM Z)).length)) ++ arrB Z y2 cap2 bb2) ++ wTo Z s2 t2) ++ arrB Z t2 ((lwT Z (toM Z)).length) b2) ((((((sw2 _ _ _).append_right _).append_right _).append_right _).append_right _).append_right _) ?_
  refine J_perm ((((((((wSim Z s (toN Z) (toM Z) hA lA oA tA eA (fun j => some (rw j)) (fun j => some (lr j)) fo ft fe 0 0 ++ wRw Z (toN Z) rw (toP Z) (toH Z) zzN zzN) ++ wLr Z (toM Z) lr (toK Z) (toV Z)) ++ wPl Z L) ++ w0_) ++ wSo Z n2 y2 (nI (lwT Z (toM Z)).length)) ++ arrB Z y2 cap2 bb2) ++ wTo Z s2 t2) ++ arrB Z t2 ((lwT Z (toM Z)).length) b2) (((((sw2 _ _ _).append_right _).append_right _).append_right _).append_right _) ?_
  refine J_perm ((((((((wSim Z s (toN Z) (toM Z) hA lA oA tA eA (fun j => some (rw j)) (fun j => some (lr j)) fo ft fe 0 0 ++ wRw Z (toN Z) rw (toP Z) (toH Z) zzN zzN) ++ wLr Z (toM Z) lr (toK Z) (toV Z)) ++ wPl Z L) ++ wSo Z n2 y2 (nI (lwT Z (toM Z)).length)) ++ w0_) ++ arrB Z y2 cap2 bb2) ++ wTo Z s2 t2) ++ arrB Z t2 ((lwT Z (toM Z)).length) b2) ((((sw2 _ _ _).append_right _).append_right _).append_right _) ?_
  refine J_perm ((((((((wSim Z s (toN Z) (toM Z) hA lA oA tA eA (fun j => some (rw j)) (fun j => some (lr j)) fo ft fe 0 0 ++ wRw Z (toN Z) rw (toP Z) (toH Z) zzN zzN) ++ wLr Z (toM Z) lr (toK Z) (toV Z)) ++ wPl Z L) ++ wSo Z n2 y2 (nI (lwT Z (toM Z)).length)) ++ arrB Z y2 cap2 bb2) ++ w0_) ++ wTo Z s2 t2) ++ arrB Z t2 ((lwT Z (toM Z)).length) b2) (((sw2 _ _ _).append_right _).append_right _) ?_
  refine J_perm ((((((((wSim Z s (toN Z) (toM Z) hA lA oA tA eA (fun j => some (rw j)) (fun j => some (lr j)) fo ft fe 0 0 ++ wRw Z (toN Z) rw (toP Z) (toH Z) zzN zzN) ++ wLr Z (toM Z) lr (toK Z) (toV Z)) ++ wPl Z L) ++ wSo Z n2 y2 (nI (lwT Z (toM Z)).length)) ++ arrB Z y2 cap2 bb2) ++ wTo Z s2 t2) ++ w0_) ++ arrB Z t2 ((lwT Z (toM Z)).length) b2) ((sw2 _ _ _).append_right _) ?_
  refine J_perm ((((((((wSim Z s (toN Z) (toM Z) hA lA oA tA eA (fun j => some (rw j)) (fun j => some (lr j)) fo ft fe 0 0 ++ wRw Z (toN Z) rw (toP Z) (toH Z) zzN zzN) ++ wLr Z (toM Z) lr (toK Z) (toV Z)) ++ wPl Z L) ++ wSo Z n2 y2 (nI (lwT Z (toM Z)).length)) ++ arrB Z y2 cap2 bb2) ++ wTo Z s2 t2) ++ arrB Z t2 ((lwT Z (toM Z)).length) b2) ++ w0_) (sw2 _ _ _) ?_
  refine J_room (rc2 := 110 + 597797) (rs2 := 700 + 4131912) (by omega) (by omega) ?_
  refine J_cSb (As := [.ref (x 0), .ref s2]) (st := []) (rc2 := 597797) (rs2 := 4131912) (w0 := ((wTo Z s2 t2 ++ arrB Z t2 ((lwT Z (toM Z)).length) b2) ++ w0_)) C iL_law_29 lm_L_167 yc_L_taught ys_L_taught (c_L_taught (tb := fun _ => 0) hl hC0 eq_none sn_none h2 hT8 (by have := lwT_len Z (toM Z); omega) hR) (((((wSim Z s (toN Z) (toM Z) hA lA oA tA eA (fun j => some (rw j)) (fun j => some (lr j)) fo ft fe 0 0 ++ wRw Z (toN Z) rw (toP Z) (toH Z) zzN zzN) ++ wLr Z (toM Z) lr (toK Z) (toV Z)) ++ wPl Z L) ++ wSo Z n2 y2 (nI (lwT Z (toM Z)).length)) ++ arrB Z y2 cap2 bb2) [] (by simp only [List.append_assoc, List.append_nil, List.nil_append]) rfl ⟨Nat.le_of_ble_eq_true rfl, Nat.le_of_ble_eq_true rfl⟩ (Nat.le_of_ble_eq_true rfl) rfl rfl ?_
  rintro _ w1_ ⟨_, rfl, rfl, pP, pH, pF, pT, op, f1, f2, l0, c0, c1, c2, c3, hC1, eq1, hd⟩
  refine J_st (.int 0 :: []) rfl ?_
  refine J_ws ((((((wSim Z s (toN Z) (toM Z) hA lA oA tA eA (fun j => some (rw j)) (fun j => some (lr j)) fo ft fe 0 0 ++ wRw Z (toN Z) rw (toP Z) (toH Z) zzN zzN) ++ wLr Z (toM Z) lr (toK Z) (toV Z)) ++ wPl Z L) ++ wSo Z n2 y2 (nI (lwT Z (toM Z)).length)) ++ arrB Z y2 cap2 bb2) ++ w1_) (by simp only [List.append_assoc, List.append_nil, List.nil_append]) ?_
  refine J_ifeq 37 C iL_law_32 rfl (fun h32 => ?_) (fun h32 => absurd rfl h32)
  refine J_aload_n C iL_law_37 rfl rfl ?_
  obtain ⟨fs3, hf3⟩ := CI.head hC1
  refine J_cVb (As := []) (st := []) (rc2 := 597797) (rs2 := 4131912) (w0 := (w1_)) (q0 := 0) C iL_law_38 lm_L_171 yc_X8_houses yv_X8_houses (k_houses hC1 eq1 (sn_told Z)) rfl rfl hf3 (((((wSim Z s (toN Z) (toM Z) hA lA oA tA eA (fun j => some (rw j)) (fun j => some (lr j)) fo ft fe 0 0 ++ wRw Z (toN Z) rw (toP Z) (toH Z) zzN zzN) ++ wLr Z (toM Z) lr (toK Z) (toV Z)) ++ wPl Z L) ++ wSo Z n2 y2 (nI (lwT Z (toM Z)).length)) ++ arrB Z y2 cap2 bb2) [] (by simp only [List.append_assoc, List.append_nil, List.nil_append]) rfl ⟨Nat.le_of_ble_eq_true rfl, Nat.le_of_ble_eq_true rfl⟩ (Nat.le_of_ble_eq_true rfl) (Nat.zero_add _).symm (Nat.zero_add _).symm ?_
  rintro _ w3 ⟨rfl, hC3⟩
  refine J_st (.int (nI (toN Z)) :: []) rfl ?_
  refine J_ws ((((((wSim Z s (toN Z) (toM Z) hA lA oA tA eA (fun j => some (rw j)) (fun j => some (lr j)) fo ft fe 0 0 ++ wRw Z (toN Z) rw (toP Z) (toH Z) zzN zzN) ++ wLr Z (toM Z) lr (toK Z) (toV Z)) ++ wPl Z L) ++ wSo Z n2 y2 (nI (lwT Z (toM Z)).length)) ++ arrB Z y2 cap2 bb2) ++ w3) (by simp only [List.append_assoc, List.append_nil, List.nil_append]) ?_
  refine J_istore [(4, .int (nI (toN Z))), (3, .ref s), (2, .ref n2), (1, .ref (x 0)), (0, .ref (zms Z 3))] C iL_law_41 (by decide) rfl ?_
  refine J_iconst 0 C iL_law_43 rfl ?_
  refine J_istore [(5, .int 0), (4, .int (nI (toN Z))), (3, .ref s), (2, .ref n2), (1, .ref (x 0)), (0, .ref (zms Z 3))] C iL_law_44 (by decide) rfl ?_
  refine J_drop (((wSim Z s (toN Z) (toM Z) hA lA oA tA eA (fun j => some (rw j)) (fun j => some (lr j)) fo ft fe 0 0 ++ wRw Z (toN Z) rw (toP Z) (toH Z) zzN zzN) ++ wLr Z (toM Z) lr (toK Z) (toV Z)) ++ wPl Z L) (wSo Z n2 y2 (nI (lwT Z (toM Z)).length) ++ arrB Z y2 cap2 bb2) (w3) (by simp only [List.append_assoc, List.append_nil, List.nil_append]) ?_
  refine J_ws ((((wSim Z s (toN Z) (toM Z) hA lA oA tA eA (fun j => some (rw j)) (fun j => some (lr j)) fo ft fe 0 0 ++ wRw Z (toN Z) rw (toP Z) (toH Z) zzN zzN) ++ wLr Z (toM Z) lr (toK Z) (toV Z)) ++ wPl Z L) ++ w3) (by simp only [List.append_assoc, List.append_nil, List.nil_append]) ?_
  refine J_perm ((((wSim Z s (toN Z) (toM Z) hA lA oA tA eA (fun j => some (rw j)) (fun j => some (lr j)) fo ft fe 0 0 ++ wRw Z (toN Z) rw (toP Z) (toH Z) zzN zzN) ++ wPl Z L) ++ wLr Z (toM Z) lr (toK Z) (toV Z)) ++ w3) ((sw2 _ _ _).append_right _) ?_
  refine J_room (rc2 := 222500 + 1 * (5000 + 0)) (rs2 := 1330000 + 1 * (30000 + 0)) (by decide) (by decide) ?_
  refine J_lvm [(5, .int 0), (4, .int (nI (toN Z))), (3, .ref s), (2, .ref n2), (1, .ref (x 0)), (0, .ref (zms Z 3))] rfl ?_
  refine law_times C hl hL hC3 eq1 (sn_told Z) tr hd (fun v0_ v1_ v2_ v3_ v4_ v5_ v6_ v7_ v8_ v9_ v10_ hC9 eq9 ok9 => ?_)
  refine J_aload_n C iL_law_1170 rfl rfl ?_
  refine J_aload_n C iL_law_1171 rfl rfl ?_
  refine J_room (rc2 := 4700 + 300) (rs2 := 28000 + 2000) (by omega) (by omega) ?_
  refine J_cVb (As := [.ref (x 0)]) (st := []) (rc2 := 300) (rs2 := 2000) (w0 := ((((wSim Z s (toN Z) (toM Z) hA lA oA tA eA (fun j => some (rw j)) (fun j => some (lr j)) fo ft fe v8_ v9_ ++ wRw Z (toN Z) rw v4_ v5_ v6_ v7_) ++ wPl Z L) ++ wLr Z (toM Z) lr (toK Z) (toV Z)) ++ v10_)) (q0 := 0) C iL_law_1172 lm_L_258 yc_X9_isSame yv_X9_isSame (c_X9_isSame hl hC9 eq9 ok9 rfl) rfl rfl rfl [] [] (by simp only [List.append_assoc, List.append_nil, List.nil_append]) rfl ⟨Nat.le_of_ble_eq_true rfl, Nat.le_of_ble_eq_true rfl⟩ (Nat.le_of_ble_eq_true rfl) rfl rfl ?_
  rintro _ w9_ rfl
  refine J_st (.int 1 :: []) rfl ?_
  refine J_ws (w9_) (by simp only [List.append_assoc, List.append_nil, List.nil_append]) ?_
  exact fin _ _ _ _

