set_option maxRecDepth 100000 in
set_option maxHeartbeats 4000000 in
theorem c_X2_init {Z : GZ} {l : Launch} {q0 : Nat}  : Ct Z l yX2_init cX2_init 1 none (rmM 3 0 0) [.ref q0] [(q0, .inr (1, [.int 0, .int 0, .int 0, .int 0, .int 0, .int 0]))] (fun v w => v = none ∧ w = [(q0, .inr (1, [.int 0, .int 0, .int 0, .int 0, .int 0, .int 0]))]) := by
  refine Ct.ofJ (own := RX2) (nm := "<init>") (lv0 := [(0, .ref q0)]) (by decide) rfl rfl (Nat.le_of_ble_eq_true rfl) rfl (fun X hXl C E => ?_)
  subst hXl
  refine J_aload_n C iX2_init_0 rfl rfl ?_
  refine J_objInit C iX2_init_1 (tsg_in (i := 158) (by decide +kernel) rfl) oi_1 oi_2 (by decide) (Nat.le_of_ble_eq_true rfl) ?_
  exact J_vret C E iX2_init_4 ⟨rfl, rfl⟩

set_option maxRecDepth 100000 in
set_option maxHeartbeats 4000000 in
theorem c_X6_init {Z : GZ} {l : Launch} {q0 : Nat}  : Ct Z l yX6_init cX6_init 1 none (rmM 3 1 2000) [.ref q0] [(q0, .inr (5, [.null, .int 0]))] (fun v w => ∃ t : Nat → Nat, t 0 = q0 ∧ v = none ∧ w = wTp Z t 0 (fun _ => 0)) := by
  refine Ct.ofJ (own := RX6) (nm := "<init>") (lv0 := [(0, .ref q0)]) (by decide) rfl rfl (Nat.le_of_ble_eq_true rfl) rfl (fun X hXl C E => ?_)
  subst hXl
  refine J_aload_n C iX6_init_0 rfl rfl ?_
  refine J_objInit C iX6_init_1 (tsg_in (i := 135) (by decide +kernel) rfl) oi_1 oi_2 (by decide) (Nat.le_of_ble_eq_true rfl) ?_
  refine J_aload_n C iX6_init_4 rfl rfl ?_
  refine J_sipush (2000) C iX6_init_5 rfl ?_
  refine J_newB (rc := 0) (rs := 0) 2000 C iX6_init_8 (tsg_in (i := 145) (by decide +kernel) rfl) (by decide) rfl (by decide) (fun q1 => ?_)
  refine J_ws [(q0, .inr (5, [.null, .int 0])), (q1, .inl (zA Z 2, 2000, .inl (fun _ => 0)))] rfl ?_
  refine J_putF E [(q0, .inr (5, [.ref q1, .int 0])), (q1, .inl (zA Z 2, 2000, .inl (fun _ => 0)))] 0 C iX6_init_10 pff_X6_9 rfl rfl rfl (Nat.le_of_ble_eq_true rfl) rfl ?_
  exact J_vret C E iX6_init_13 ⟨fun k => [q0, q1].getD k 0, rfl, rfl, rfl⟩

set_option maxRecDepth 100000 in
set_option maxHeartbeats 4000000 in
theorem c_X4_init {Z : GZ} {l : Launch} {q0 : Nat} {b : Nat → Nat} : Ct Z l yX4_init cX4_init 2 none (rmM 3 1 400) [.ref q0, .ref (b 0)] [(q0, .inr (3, [.null, .null, .int 0]))] (fun v w => ∃ r : Nat → Nat, r 0 = q0 ∧ v = none ∧ w = wRk Z r b 0 (fun _ => 0)) := by
  refine Ct.ofJ (own := RX4) (nm := "<init>") (lv0 := [(0, .ref q0), (1, .ref (b 0))]) (by decide) rfl rfl (Nat.le_of_ble_eq_true rfl) rfl (fun X hXl C E => ?_)
  subst hXl
  refine J_aload_n C iX4_init_0 rfl rfl ?_
  refine J_objInit C iX4_init_1 (tsg_in (i := 302) (by decide +kernel) rfl) oi_1 oi_2 (by decide) (Nat.le_of_ble_eq_true rfl) ?_
  refine J_aload_n C iX4_init_4 rfl rfl ?_
  refine J_sipush (400) C iX4_init_5 rfl ?_
  refine J_newI (rc := 0) (rs := 0) 400 C iX4_init_8 (tsg_in (i := 191) (by decide +kernel) rfl) (by decide) rfl (by decide) (fun q1 => ?_)
  refine J_ws [(q0, .inr (3, [.null, .null, .int 0])), (q1, .inl (zA Z 0, 400, .inl (fun _ => 0)))] rfl ?_
  refine J_putF E [(q0, .inr (3, [.null, .ref q1, .int 0])), (q1, .inl (zA Z 0, 400, .inl (fun _ => 0)))] 0 C iX4_init_10 pff_X4_9 rfl rfl rfl (Nat.le_of_ble_eq_true rfl) rfl ?_
  refine J_aload_n C iX4_init_13 rfl rfl ?_
  refine J_aload_n C iX4_init_14 rfl rfl ?_
  refine J_putF E [(q0, .inr (3, [.ref (b 0), .ref q1, .int 0])), (q1, .inl (zA Z 0, 400, .inl (fun _ => 0)))] 0 C iX4_init_15 pff_X4_15 rfl rfl rfl (Nat.le_of_ble_eq_true rfl) rfl ?_
  exact J_vret C E iX4_init_18 ⟨fun k => [q0, q1].getD k 0, rfl, rfl, rfl⟩

set_option maxRecDepth 100000 in
set_option maxHeartbeats 4000000 in
theorem c_X5_init {Z : GZ} {l : Launch} {q0 : Nat}  : Ct Z l yX5_init cX5_init 1 none (rmM 3 7 216) [.ref q0] [(q0, .inr (4, [.int 0, .int 0, .int 0, .int 0, .null, .null, .null, .null, .null, .null, .null]))] (fun v w => ∃ a : Nat → Nat, a 0 = q0 ∧ v = none ∧ w = wSt Z a 0 0 0 0 (fun _ => 0) (fun _ => 0) (fun _ => 0) (fun _ => 0) (fun _ => 0) (fun _ => 0) (fun _ => 0)) := by
  refine Ct.ofJ (own := RX5) (nm := "<init>") (lv0 := [(0, .ref q0)]) (by decide) rfl rfl (Nat.le_of_ble_eq_true rfl) rfl (fun X hXl C E => ?_)
  subst hXl
  refine J_aload_n C iX5_init_0 rfl rfl ?_
  refine J_objInit C iX5_init_1 (tsg_in (i := 318) (by decide +kernel) rfl) oi_1 oi_2 (by decide) (Nat.le_of_ble_eq_true rfl) ?_
  refine J_aload_n C iX5_init_4 rfl rfl ?_
  refine J_bipush (12) C iX5_init_5 rfl ?_
  refine J_newI (rc := 6) (rs := 204) 12 C iX5_init_7 (tsg_in (i := 191) (by decide +kernel) rfl) (by decide) rfl (by decide) (fun q1 => ?_)
  refine J_ws [(q0, .inr (4, [.int 0, .int 0, .int 0, .int 0, .null, .null, .null, .null, .null, .null, .null])), (q1, .inl (zA Z 0, 12, .inl (fun _ => 0)))] rfl ?_
  refine J_putF E [(q0, .inr (4, [.int 0, .int 0, .int 0, .int 0, .ref q1, .null, .null, .null, .null, .null, .null])), (q1, .inl (zA Z 0, 12, .inl (fun _ => 0)))] 0 C iX5_init_9 pff_X5_9 rfl rfl rfl (Nat.le_of_ble_eq_true rfl) rfl ?_
  refine J_aload_n C iX5_init_12 rfl rfl ?_
  refine J_bipush (12) C iX5_init_13 rfl ?_
  refine J_newI (rc := 5) (rs := 192) 12 C iX5_init_15 (tsg_in (i := 191) (by decide +kernel) rfl) (by decide) rfl (by decide) (fun q2 => ?_)
  refine J_ws [(q0, .inr (4, [.int 0, .int 0, .int 0, .int 0, .ref q1, .null, .null, .null, .null, .null, .null])), (q1, .inl (zA Z 0, 12, .inl (fun _ => 0))), (q2, .inl (zA Z 0, 12, .inl (fun _ => 0)))] rfl ?_
  refine J_putF E [(q0, .inr (4, [.int 0, .int 0, .int 0, .int 0, .ref q1, .ref q2, .null, .null, .null, .null, .null])), (q1, .inl (zA Z 0, 12, .inl (fun _ => 0))), (q2, .inl (zA Z 0, 12, .inl (fun _ => 0)))] 0 C iX5_init_17 pff_X5_15 rfl rfl rfl (Nat.le_of_ble_eq_true rfl) rfl ?_
  refine J_aload_n C iX5_init_20 rfl rfl ?_
  refine J_bipush (12) C iX5_init_21 rfl ?_
  refine J_newI (rc := 4) (rs := 180) 12 C iX5_init_23 (tsg_in (i := 191) (by decide +kernel) rfl) (by decide) rfl (by decide) (fun q3 => ?_)
  refine J_ws [(q0, .inr (4, [.int 0, .int 0, .int 0, .int 0, .ref q1, .ref q2, .null, .null, .null, .null, .null])), (q1, .inl (zA Z 0, 12, .inl (fun _ => 0))), (q2, .inl (zA Z 0, 12, .inl (fun _ => 0))), (q3, .inl (zA Z 0, 12, .inl (fun _ => 0)))] rfl ?_
  refine J_putF E [(q0, .inr (4, [.int 0, .int 0, .int 0, .int 0, .ref q1, .ref q2, .ref q3, .null, .null, .null, .null])), (q1, .inl (zA Z 0, 12, .inl (fun _ => 0))), (q2, .inl (zA Z 0, 12, .inl (fun _ => 0))), (q3, .inl (zA Z 0, 12, .inl (fun _ => 0)))] 0 C iX5_init_25 pff_X5_18 rfl rfl rfl (Nat.le_of_ble_eq_true rfl) rfl ?_
  refine J_aload_n C iX5_init_28 rfl rfl ?_
  refine J_bipush (12) C iX5_init_29 rfl ?_
  refine J_newI (rc := 3) (rs := 168) 12 C iX5_init_31 (tsg_in (i := 191) (by decide +kernel) rfl) (by decide) rfl (by decide) (fun q4 => ?_)
  refine J_ws [(q0, .inr (4, [.int 0, .int 0, .int 0, .int 0, .ref q1, .ref q2, .ref q3, .null, .null, .null, .null])), (q1, .inl (zA Z 0, 12, .inl (fun _ => 0))), (q2, .inl (zA Z 0, 12, .inl (fun _ => 0))), (q3, .inl (zA Z 0, 12, .inl (fun _ => 0))), (q4, .inl (zA Z 0, 12, .inl (fun _ => 0)))] rfl ?_
  refine J_putF E [(q0, .inr (4, [.int 0, .int 0, .int 0, .int 0, .ref q1, .ref q2, .ref q3, .ref q4, .null, .null, .null])), (q1, .inl (zA Z 0, 12, .inl (fun _ => 0))), (q2, .inl (zA Z 0, 12, .inl (fun _ => 0))), (q3, .inl (zA Z 0, 12, .inl (fun _ => 0))), (q4, .inl (zA Z 0, 12, .inl (fun _ => 0)))] 0 C iX5_init_33 pff_X5_21 rfl rfl rfl (Nat.le_of_ble_eq_true rfl) rfl ?_
  refine J_aload_n C iX5_init_36 rfl rfl ?_
  refine J_sipush (144) C iX5_init_37 rfl ?_
  refine J_newI (rc := 2) (rs := 24) 144 C iX5_init_40 (tsg_in (i := 191) (by decide +kernel) rfl) (by decide) rfl (by decide) (fun q5 => ?_)
  refine J_ws [(q0, .inr (4, [.int 0, .int 0, .int 0, .int 0, .ref q1, .ref q2, .ref q3, .ref q4, .null, .null, .null])), (q1, .inl (zA Z 0, 12, .inl (fun _ => 0))), (q2, .inl (zA Z 0, 12, .inl (fun _ => 0))), (q3, .inl (zA Z 0, 12, .inl (fun _ => 0))), (q4, .inl (zA Z 0, 12, .inl (fun _ => 0))), (q5, .inl (zA Z 0, 144, .inl (fun _ => 0)))] rfl ?_
  refine J_putF E [(q0, .inr (4, [.int 0, .int 0, .int 0, .int 0, .ref q1, .ref q2, .ref q3, .ref q4, .ref q5, .null, .null])), (q1, .inl (zA Z 0, 12, .inl (fun _ => 0))), (q2, .inl (zA Z 0, 12, .inl (fun _ => 0))), (q3, .inl (zA Z 0, 12, .inl (fun _ => 0))), (q4, .inl (zA Z 0, 12, .inl (fun _ => 0))), (q5, .inl (zA Z 0, 144, .inl (fun _ => 0)))] 0 C iX5_init_42 pff_X5_24 rfl rfl rfl (Nat.le_of_ble_eq_true rfl) rfl ?_
  refine J_aload_n C iX5_init_45 rfl rfl ?_
  refine J_bipush (12) C iX5_init_46 rfl ?_
  refine J_newI (rc := 1) (rs := 12) 12 C iX5_init_48 (tsg_in (i := 191) (by decide +kernel) rfl) (by decide) rfl (by decide) (fun q6 => ?_)
  refine J_ws [(q0, .inr (4, [.int 0, .int 0, .int 0, .int 0, .ref q1, .ref q2, .ref q3, .ref q4, .ref q5, .null, .null])), (q1, .inl (zA Z 0, 12, .inl (fun _ => 0))), (q2, .inl (zA Z 0, 12, .inl (fun _ => 0))), (q3, .inl (zA Z 0, 12, .inl (fun _ => 0))), (q4, .inl (zA Z 0, 12, .inl (fun _ => 0))), (q5, .inl (zA Z 0, 144, .inl (fun _ => 0))), (q6, .inl (zA Z 0, 12, .inl (fun _ => 0)))] rfl ?_
  refine J_putF E [(q0, .inr (4, [.int 0, .int 0, .int 0, .int 0, .ref q1, .ref q2, .ref q3, .ref q4, .ref q5, .ref q6, .null])), (q1, .inl (zA Z 0, 12, .inl (fun _ => 0))), (q2, .inl (zA Z 0, 12, .inl (fun _ => 0))), (q3, .inl (zA Z 0, 12, .inl (fun _ => 0))), (q4, .inl (zA Z 0, 12, .inl (fun _ => 0))), (q5, .inl (zA Z 0, 144, .inl (fun _ => 0))), (q6, .inl (zA Z 0, 12, .inl (fun _ => 0)))] 0 C iX5_init_50 pff_X5_27 rfl rfl rfl (Nat.le_of_ble_eq_true rfl) rfl ?_
  refine J_aload_n C iX5_init_53 rfl rfl ?_
  refine J_bipush (12) C iX5_init_54 rfl ?_
  refine J_newI (rc := 0) (rs := 0) 12 C iX5_init_56 (tsg_in (i := 191) (by decide +kernel) rfl) (by decide) rfl (by decide) (fun q7 => ?_)
  refine J_ws [(q0, .inr (4, [.int 0, .int 0, .int 0, .int 0, .ref q1, .ref q2, .ref q3, .ref q4, .ref q5, .ref q6, .null])), (q1, .inl (zA Z 0, 12, .inl (fun _ => 0))), (q2, .inl (zA Z 0, 12, .inl (fun _ => 0))), (q3, .inl (zA Z 0, 12, .inl (fun _ => 0))), (q4, .inl (zA Z 0, 12, .inl (fun _ => 0))), (q5, .inl (zA Z 0, 144, .inl (fun _ => 0))), (q6, .inl (zA Z 0, 12, .inl (fun _ => 0))), (q7, .inl (zA Z 0, 12, .inl (fun _ => 0)))] rfl ?_
  refine J_putF E [(q0, .inr (4, [.int 0, .int 0, .int 0, .int 0, .ref q1, .ref q2, .ref q3, .ref q4, .ref q5, .ref q6, .ref q7])), (q1, .inl (zA Z 0, 12, .inl (fun _ => 0))), (q2, .inl (zA Z 0, 12, .inl (fun _ => 0))), (q3, .inl (zA Z 0, 12, .inl (fun _ => 0))), (q4, .inl (zA Z 0, 12, .inl (fun _ => 0))), (q5, .inl (zA Z 0, 144, .inl (fun _ => 0))), (q6, .inl (zA Z 0, 12, .inl (fun _ => 0))), (q7, .inl (zA Z 0, 12, .inl (fun _ => 0)))] 0 C iX5_init_58 pff_X5_30 rfl rfl rfl (Nat.le_of_ble_eq_true rfl) rfl ?_
  exact J_vret C E iX5_init_61 ⟨fun k => [q0, q1, q2, q3, q4, q5, q6, q7].getD k 0, rfl, rfl, rfl⟩

