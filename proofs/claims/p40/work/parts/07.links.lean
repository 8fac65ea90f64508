theorem lay_X0 : ∀ w ∈ u_ws RX0 TX0 10, w ∈ TSg := by
  intro w hw
  obtain ⟨j, hj, rfl⟩ := List.mem_map.mp hw
  have hj := List.mem_range.mp hj
  match j, hj with
  | 0, _ => exact tsg_in (i := 154) (by decide +kernel) rfl
  | 1, _ => exact tsg_in (i := 156) (by decide +kernel) rfl
  | 2, _ => exact tsg_in (i := 158) (by decide +kernel) rfl
  | 3, _ => exact tsg_in (i := 160) (by decide +kernel) rfl
  | 4, _ => exact tsg_in (i := 162) (by decide +kernel) rfl
  | 5, _ => exact tsg_in (i := 164) (by decide +kernel) rfl
  | 6, _ => exact tsg_in (i := 166) (by decide +kernel) rfl
  | 7, _ => exact tsg_in (i := 168) (by decide +kernel) rfl
  | 8, _ => exact tsg_in (i := 170) (by decide +kernel) rfl
  | 9, _ => exact tsg_in (i := 172) (by decide +kernel) rfl
  | j + 10, h => exact absurd h (by omega)
theorem lay_X2 : ∀ w ∈ u_ws RX2 TX2 6, w ∈ TSg := by
  intro w hw
  obtain ⟨j, hj, rfl⟩ := List.mem_map.mp hw
  have hj := List.mem_range.mp hj
  match j, hj with
  | 0, _ => exact tsg_in (i := 118) (by decide +kernel) rfl
  | 1, _ => exact tsg_in (i := 120) (by decide +kernel) rfl
  | 2, _ => exact tsg_in (i := 122) (by decide +kernel) rfl
  | 3, _ => exact tsg_in (i := 124) (by decide +kernel) rfl
  | 4, _ => exact tsg_in (i := 126) (by decide +kernel) rfl
  | 5, _ => exact tsg_in (i := 128) (by decide +kernel) rfl
  | j + 6, h => exact absurd h (by omega)
theorem lay_X3 : ∀ w ∈ u_ws RX3 TX3 9, w ∈ TSg := by
  intro w hw
  obtain ⟨j, hj, rfl⟩ := List.mem_map.mp hw
  have hj := List.mem_range.mp hj
  match j, hj with
  | 0, _ => exact tsg_in (i := 219) (by decide +kernel) rfl
  | 1, _ => exact tsg_in (i := 221) (by decide +kernel) rfl
  | 2, _ => exact tsg_in (i := 223) (by decide +kernel) rfl
  | 3, _ => exact tsg_in (i := 225) (by decide +kernel) rfl
  | 4, _ => exact tsg_in (i := 227) (by decide +kernel) rfl
  | 5, _ => exact tsg_in (i := 229) (by decide +kernel) rfl
  | 6, _ => exact tsg_in (i := 231) (by decide +kernel) rfl
  | 7, _ => exact tsg_in (i := 233) (by decide +kernel) rfl
  | 8, _ => exact tsg_in (i := 235) (by decide +kernel) rfl
  | j + 9, h => exact absurd h (by omega)
theorem lay_X4 : ∀ w ∈ u_ws RX4 TX4 3, w ∈ TSg := by
  intro w hw
  obtain ⟨j, hj, rfl⟩ := List.mem_map.mp hw
  have hj := List.mem_range.mp hj
  match j, hj with
  | 0, _ => exact tsg_in (i := 247) (by decide +kernel) rfl
  | 1, _ => exact tsg_in (i := 249) (by decide +kernel) rfl
  | 2, _ => exact tsg_in (i := 251) (by decide +kernel) rfl
  | j + 3, h => exact absurd h (by omega)
theorem lay_X5 : ∀ w ∈ u_ws RX5 TX5 11, w ∈ TSg := by
  intro w hw
  obtain ⟨j, hj, rfl⟩ := List.mem_map.mp hw
  have hj := List.mem_range.mp hj
  match j, hj with
  | 0, _ => exact tsg_in (i := 277) (by decide +kernel) rfl
  | 1, _ => exact tsg_in (i := 279) (by decide +kernel) rfl
  | 2, _ => exact tsg_in (i := 281) (by decide +kernel) rfl
  | 3, _ => exact tsg_in (i := 283) (by decide +kernel) rfl
  | 4, _ => exact tsg_in (i := 285) (by decide +kernel) rfl
  | 5, _ => exact tsg_in (i := 287) (by decide +kernel) rfl
  | 6, _ => exact tsg_in (i := 289) (by decide +kernel) rfl
  | 7, _ => exact tsg_in (i := 291) (by decide +kernel) rfl
  | 8, _ => exact tsg_in (i := 293) (by decide +kernel) rfl
  | 9, _ => exact tsg_in (i := 295) (by decide +kernel) rfl
  | 10, _ => exact tsg_in (i := 297) (by decide +kernel) rfl
  | j + 11, h => exact absurd h (by omega)
theorem lay_X6 : ∀ w ∈ u_ws RX6 TX6 2, w ∈ TSg := by
  intro w hw
  obtain ⟨j, hj, rfl⟩ := List.mem_map.mp hw
  have hj := List.mem_range.mp hj
  match j, hj with
  | 0, _ => exact tsg_in (i := 81) (by decide +kernel) rfl
  | 1, _ => exact tsg_in (i := 83) (by decide +kernel) rfl
  | j + 2, h => exact absurd h (by omega)
theorem lay_X7 : ∀ w ∈ u_ws RX7 TX7 5, w ∈ TSg := by
  intro w hw
  obtain ⟨j, hj, rfl⟩ := List.mem_map.mp hw
  have hj := List.mem_range.mp hj
  match j, hj with
  | 0, _ => exact tsg_in (i := 190) (by decide +kernel) rfl
  | 1, _ => exact tsg_in (i := 192) (by decide +kernel) rfl
  | 2, _ => exact tsg_in (i := 194) (by decide +kernel) rfl
  | 3, _ => exact tsg_in (i := 196) (by decide +kernel) rfl
  | 4, _ => exact tsg_in (i := 198) (by decide +kernel) rfl
  | j + 5, h => exact absurd h (by omega)
theorem lay_X8 : ∀ w ∈ u_ws RX8 TX8 8, w ∈ TSg := by
  intro w hw
  obtain ⟨j, hj, rfl⟩ := List.mem_map.mp hw
  have hj := List.mem_range.mp hj
  match j, hj with
  | 0, _ => exact tsg_in (i := 308) (by decide +kernel) rfl
  | 1, _ => exact tsg_in (i := 310) (by decide +kernel) rfl
  | 2, _ => exact tsg_in (i := 312) (by decide +kernel) rfl
  | 3, _ => exact tsg_in (i := 314) (by decide +kernel) rfl
  | 4, _ => exact tsg_in (i := 316) (by decide +kernel) rfl
  | 5, _ => exact tsg_in (i := 318) (by decide +kernel) rfl
  | 6, _ => exact tsg_in (i := 320) (by decide +kernel) rfl
  | 7, _ => exact tsg_in (i := 322) (by decide +kernel) rfl
  | j + 8, h => exact absurd h (by omega)
theorem lay_X9 : ∀ w ∈ u_ws RX9 TX9 7, w ∈ TSg := by
  intro w hw
  obtain ⟨j, hj, rfl⟩ := List.mem_map.mp hw
  have hj := List.mem_range.mp hj
  match j, hj with
  | 0, _ => exact tsg_in (i := 1197) (by decide +kernel) rfl
  | 1, _ => exact tsg_in (i := 1199) (by decide +kernel) rfl
  | 2, _ => exact tsg_in (i := 1201) (by decide +kernel) rfl
  | 3, _ => exact tsg_in (i := 1203) (by decide +kernel) rfl
  | 4, _ => exact tsg_in (i := 1205) (by decide +kernel) rfl
  | 5, _ => exact tsg_in (i := 1207) (by decide +kernel) rfl
  | 6, _ => exact tsg_in (i := 1209) (by decide +kernel) rfl
  | j + 7, h => exact absurd h (by omega)
theorem lay_X10 : ∀ w ∈ u_ws RX10 TX10 5, w ∈ TSg := by
  intro w hw
  obtain ⟨j, hj, rfl⟩ := List.mem_map.mp hw
  have hj := List.mem_range.mp hj
  match j, hj with
  | 0, _ => exact tsg_in (i := 1366) (by decide +kernel) rfl
  | 1, _ => exact tsg_in (i := 1368) (by decide +kernel) rfl
  | 2, _ => exact tsg_in (i := 1370) (by decide +kernel) rfl
  | 3, _ => exact tsg_in (i := 1372) (by decide +kernel) rfl
  | 4, _ => exact tsg_in (i := 1374) (by decide +kernel) rfl
  | j + 5, h => exact absurd h (by omega)
theorem lay_J0 : ∀ w ∈ u_ws RJ0 TJ0 4, w ∈ TSg := by
  intro w hw
  obtain ⟨j, hj, rfl⟩ := List.mem_map.mp hw
  have hj := List.mem_range.mp hj
  match j, hj with
  | 0, _ => exact tsg_in (i := 1481) (by decide +kernel) rfl
  | 1, _ => exact tsg_in (i := 1483) (by decide +kernel) rfl
  | 2, _ => exact tsg_in (i := 1485) (by decide +kernel) rfl
  | 3, _ => exact tsg_in (i := 1487) (by decide +kernel) rfl
  | j + 4, h => exact absurd h (by omega)
theorem lay_J4 : ∀ w ∈ u_ws RJ4 TJ4 4, w ∈ TSg := by
  intro w hw
  obtain ⟨j, hj, rfl⟩ := List.mem_map.mp hw
  have hj := List.mem_range.mp hj
  match j, hj with
  | 0, _ => exact tsg_in (i := 1423) (by decide +kernel) rfl
  | 1, _ => exact tsg_in (i := 1425) (by decide +kernel) rfl
  | 2, _ => exact tsg_in (i := 1427) (by decide +kernel) rfl
  | 3, _ => exact tsg_in (i := 1429) (by decide +kernel) rfl
  | j + 4, h => exact absurd h (by omega)
theorem gf_X6_9 : GF RX6 9 5 0 := ⟨RX6, TX6, 2, rfl, by decide, lay_X6, Or.inl (tsg_in (i := 77) (by decide +kernel) rfl)⟩
theorem pff_X6_9 : PFF RX6 9 5 0 (.array .byte) := ⟨RX6, TX6, 2, tyX6, rfl, by decide, rfl, rfl, lay_X6, tsg_in (i := 77) (by decide +kernel) rfl, tyX6_ok, nmX6, rfl, rfl⟩
theorem gf_X8_63 : GF RX8 63 5 1 := ⟨RX6, TX6, 2, rfl, by decide, lay_X6, Or.inr ⟨"ShadowRegistry", nws_in (i := 78) (by decide +kernel) rfl⟩⟩
theorem pf_X8_63 : PF RX8 63 5 1 .int := ⟨RX6, TX6, 2, tyX6, rfl, by decide, lay_X6, Or.inr ⟨"ShadowRegistry", nws_in (i := 78) (by decide +kernel) rfl⟩, tyX6_ok, nmX6, rfl, rfl⟩
theorem gf_X6_15 : GF RX6 15 5 1 := ⟨RX6, TX6, 2, rfl, by decide, lay_X6, Or.inl (tsg_in (i := 79) (by decide +kernel) rfl)⟩
theorem pf_X6_15 : PF RX6 15 5 1 .int := ⟨RX6, TX6, 2, tyX6, rfl, by decide, lay_X6, Or.inl (tsg_in (i := 79) (by decide +kernel) rfl), tyX6_ok, nmX6, rfl, rfl⟩
theorem gf_X7_44 : GF RX7 44 5 1 := ⟨RX6, TX6, 2, rfl, by decide, lay_X6, Or.inr ⟨"ShadowRegistry", nws_in (i := 80) (by decide +kernel) rfl⟩⟩
theorem pf_X7_44 : PF RX7 44 5 1 .int := ⟨RX6, TX6, 2, tyX6, rfl, by decide, lay_X6, Or.inr ⟨"ShadowRegistry", nws_in (i := 80) (by decide +kernel) rfl⟩, tyX6_ok, nmX6, rfl, rfl⟩
theorem gf_X2_7 : GF RX2 7 1 0 := ⟨RX2, TX2, 6, rfl, by decide, lay_X2, Or.inl (tsg_in (i := 100) (by decide +kernel) rfl)⟩
theorem pf_X2_7 : PF RX2 7 1 0 .int := ⟨RX2, TX2, 6, tyX2, rfl, by decide, lay_X2, Or.inl (tsg_in (i := 100) (by decide +kernel) rfl), tyX2_ok, nmX2, rfl, rfl⟩
theorem gf_X4_53 : GF RX4 53 1 0 := ⟨RX2, TX2, 6, rfl, by decide, lay_X2, Or.inr ⟨"ShadowRegistry", nws_in (i := 101) (by decide +kernel) rfl⟩⟩
theorem pf_X4_53 : PF RX4 53 1 0 .int := ⟨RX2, TX2, 6, tyX2, rfl, by decide, lay_X2, Or.inr ⟨"ShadowRegistry", nws_in (i := 101) (by decide +kernel) rfl⟩, tyX2_ok, nmX2, rfl, rfl⟩
theorem gf_X3_162 : GF RX3 162 1 0 := ⟨RX2, TX2, 6, rfl, by decide, lay_X2, Or.inr ⟨"ShadowRegistry", nws_in (i := 102) (by decide +kernel) rfl⟩⟩
theorem pf_X3_162 : PF RX3 162 1 0 .int := ⟨RX2, TX2, 6, tyX2, rfl, by decide, lay_X2, Or.inr ⟨"ShadowRegistry", nws_in (i := 102) (by decide +kernel) rfl⟩, tyX2_ok, nmX2, rfl, rfl⟩
theorem gf_X2_13 : GF RX2 13 1 1 := ⟨RX2, TX2, 6, rfl, by decide, lay_X2, Or.inl (tsg_in (i := 103) (by decide +kernel) rfl)⟩
theorem pf_X2_13 : PF RX2 13 1 1 .int := ⟨RX2, TX2, 6, tyX2, rfl, by decide, lay_X2, Or.inl (tsg_in (i := 103) (by decide +kernel) rfl), tyX2_ok, nmX2, rfl, rfl⟩
theorem gf_X4_56 : GF RX4 56 1 1 := ⟨RX2, TX2, 6, rfl, by decide, lay_X2, Or.inr ⟨"ShadowRegistry", nws_in (i := 104) (by decide +kernel) rfl⟩⟩
theorem pf_X4_56 : PF RX4 56 1 1 .int := ⟨RX2, TX2, 6, tyX2, rfl, by decide, lay_X2, Or.inr ⟨"ShadowRegistry", nws_in (i := 104) (by decide +kernel) rfl⟩, tyX2_ok, nmX2, rfl, rfl⟩
theorem gf_X3_168 : GF RX3 168 1 1 := ⟨RX2, TX2, 6, rfl, by decide, lay_X2, Or.inr ⟨"ShadowRegistry", nws_in (i := 105) (by decide +kernel) rfl⟩⟩
theorem pf_X3_168 : PF RX3 168 1 1 .int := ⟨RX2, TX2, 6, tyX2, rfl, by decide, lay_X2, Or.inr ⟨"ShadowRegistry", nws_in (i := 105) (by decide +kernel) rfl⟩, tyX2_ok, nmX2, rfl, rfl⟩
theorem gf_X2_16 : GF RX2 16 1 2 := ⟨RX2, TX2, 6, rfl, by decide, lay_X2, Or.inl (tsg_in (i := 106) (by decide +kernel) rfl)⟩
theorem pf_X2_16 : PF RX2 16 1 2 .int := ⟨RX2, TX2, 6, tyX2, rfl, by decide, lay_X2, Or.inl (tsg_in (i := 106) (by decide +kernel) rfl), tyX2_ok, nmX2, rfl, rfl⟩
theorem gf_X4_63 : GF RX4 63 1 2 := ⟨RX2, TX2, 6, rfl, by decide, lay_X2, Or.inr ⟨"ShadowRegistry", nws_in (i := 107) (by decide +kernel) rfl⟩⟩
theorem pf_X4_63 : PF RX4 63 1 2 .int := ⟨RX2, TX2, 6, tyX2, rfl, by decide, lay_X2, Or.inr ⟨"ShadowRegistry", nws_in (i := 107) (by decide +kernel) rfl⟩, tyX2_ok, nmX2, rfl, rfl⟩
theorem gf_X3_153 : GF RX3 153 1 2 := ⟨RX2, TX2, 6, rfl, by decide, lay_X2, Or.inr ⟨"ShadowRegistry", nws_in (i := 108) (by decide +kernel) rfl⟩⟩
theorem pf_X3_153 : PF RX3 153 1 2 .int := ⟨RX2, TX2, 6, tyX2, rfl, by decide, lay_X2, Or.inr ⟨"ShadowRegistry", nws_in (i := 108) (by decide +kernel) rfl⟩, tyX2_ok, nmX2, rfl, rfl⟩
theorem gf_X2_19 : GF RX2 19 1 3 := ⟨RX2, TX2, 6, rfl, by decide, lay_X2, Or.inl (tsg_in (i := 109) (by decide +kernel) rfl)⟩
theorem pf_X2_19 : PF RX2 19 1 3 .int := ⟨RX2, TX2, 6, tyX2, rfl, by decide, lay_X2, Or.inl (tsg_in (i := 109) (by decide +kernel) rfl), tyX2_ok, nmX2, rfl, rfl⟩
theorem gf_X4_66 : GF RX4 66 1 3 := ⟨RX2, TX2, 6, rfl, by decide, lay_X2, Or.inr ⟨"ShadowRegistry", nws_in (i := 110) (by decide +kernel) rfl⟩⟩
theorem pf_X4_66 : PF RX4 66 1 3 .int := ⟨RX2, TX2, 6, tyX2, rfl, by decide, lay_X2, Or.inr ⟨"ShadowRegistry", nws_in (i := 110) (by decide +kernel) rfl⟩, tyX2_ok, nmX2, rfl, rfl⟩
theorem gf_X3_156 : GF RX3 156 1 3 := ⟨RX2, TX2, 6, rfl, by decide, lay_X2, Or.inr ⟨"ShadowRegistry", nws_in (i := 111) (by decide +kernel) rfl⟩⟩
theorem pf_X3_156 : PF RX3 156 1 3 .int := ⟨RX2, TX2, 6, tyX2, rfl, by decide, lay_X2, Or.inr ⟨"ShadowRegistry", nws_in (i := 111) (by decide +kernel) rfl⟩, tyX2_ok, nmX2, rfl, rfl⟩
theorem gf_X2_22 : GF RX2 22 1 4 := ⟨RX2, TX2, 6, rfl, by decide, lay_X2, Or.inl (tsg_in (i := 112) (by decide +kernel) rfl)⟩
theorem pf_X2_22 : PF RX2 22 1 4 .int := ⟨RX2, TX2, 6, tyX2, rfl, by decide, lay_X2, Or.inl (tsg_in (i := 112) (by decide +kernel) rfl), tyX2_ok, nmX2, rfl, rfl⟩
theorem gf_X4_41 : GF RX4 41 1 4 := ⟨RX2, TX2, 6, rfl, by decide, lay_X2, Or.inr ⟨"ShadowRegistry", nws_in (i := 113) (by decide +kernel) rfl⟩⟩
theorem pf_X4_41 : PF RX4 41 1 4 .int := ⟨RX2, TX2, 6, tyX2, rfl, by decide, lay_X2, Or.inr ⟨"ShadowRegistry", nws_in (i := 113) (by decide +kernel) rfl⟩, tyX2_ok, nmX2, rfl, rfl⟩
theorem gf_X3_136 : GF RX3 136 1 4 := ⟨RX2, TX2, 6, rfl, by decide, lay_X2, Or.inr ⟨"ShadowRegistry", nws_in (i := 114) (by decide +kernel) rfl⟩⟩
theorem pf_X3_136 : PF RX3 136 1 4 .int := ⟨RX2, TX2, 6, tyX2, rfl, by decide, lay_X2, Or.inr ⟨"ShadowRegistry", nws_in (i := 114) (by decide +kernel) rfl⟩, tyX2_ok, nmX2, rfl, rfl⟩
theorem gf_X2_25 : GF RX2 25 1 5 := ⟨RX2, TX2, 6, rfl, by decide, lay_X2, Or.inl (tsg_in (i := 115) (by decide +kernel) rfl)⟩
theorem pf_X2_25 : PF RX2 25 1 5 .int := ⟨RX2, TX2, 6, tyX2, rfl, by decide, lay_X2, Or.inl (tsg_in (i := 115) (by decide +kernel) rfl), tyX2_ok, nmX2, rfl, rfl⟩
theorem gf_X4_46 : GF RX4 46 1 5 := ⟨RX2, TX2, 6, rfl, by decide, lay_X2, Or.inr ⟨"ShadowRegistry", nws_in (i := 116) (by decide +kernel) rfl⟩⟩
theorem pf_X4_46 : PF RX4 46 1 5 .int := ⟨RX2, TX2, 6, tyX2, rfl, by decide, lay_X2, Or.inr ⟨"ShadowRegistry", nws_in (i := 116) (by decide +kernel) rfl⟩, tyX2_ok, nmX2, rfl, rfl⟩
theorem gf_X3_146 : GF RX3 146 1 5 := ⟨RX2, TX2, 6, rfl, by decide, lay_X2, Or.inr ⟨"ShadowRegistry", nws_in (i := 117) (by decide +kernel) rfl⟩⟩
theorem pf_X3_146 : PF RX3 146 1 5 .int := ⟨RX2, TX2, 6, tyX2, rfl, by decide, lay_X2, Or.inr ⟨"ShadowRegistry", nws_in (i := 117) (by decide +kernel) rfl⟩, tyX2_ok, nmX2, rfl, rfl⟩
theorem gf_X0_9 : GF RX0 9 0 0 := ⟨RX0, TX0, 10, rfl, by decide, lay_X0, Or.inl (tsg_in (i := 133) (by decide +kernel) rfl)⟩
theorem pff_X0_9 : PFF RX0 9 0 0 (.array .long) := ⟨RX0, TX0, 10, tyX0, rfl, by decide, rfl, rfl, lay_X0, tsg_in (i := 133) (by decide +kernel) rfl, tyX0_ok, nmX0, rfl, rfl⟩
theorem gf_X0_15 : GF RX0 15 0 1 := ⟨RX0, TX0, 10, rfl, by decide, lay_X0, Or.inl (tsg_in (i := 134) (by decide +kernel) rfl)⟩
theorem pff_X0_15 : PFF RX0 15 0 1 (.array .int) := ⟨RX0, TX0, 10, tyX0, rfl, by decide, rfl, rfl, lay_X0, tsg_in (i := 134) (by decide +kernel) rfl, tyX0_ok, nmX0, rfl, rfl⟩
theorem gf_X5_52 : GF RX5 52 0 1 := ⟨RX0, TX0, 10, rfl, by decide, lay_X0, Or.inr ⟨"ShadowRegistry", nws_in (i := 135) (by decide +kernel) rfl⟩⟩
theorem gf_X0_19 : GF RX0 19 0 2 := ⟨RX0, TX0, 10, rfl, by decide, lay_X0, Or.inl (tsg_in (i := 136) (by decide +kernel) rfl)⟩
theorem pff_X0_19 : PFF RX0 19 0 2 (.array .int) := ⟨RX0, TX0, 10, tyX0, rfl, by decide, rfl, rfl, lay_X0, tsg_in (i := 136) (by decide +kernel) rfl, tyX0_ok, nmX0, rfl, rfl⟩
theorem gf_X5_53 : GF RX5 53 0 2 := ⟨RX0, TX0, 10, rfl, by decide, lay_X0, Or.inr ⟨"ShadowRegistry", nws_in (i := 137) (by decide +kernel) rfl⟩⟩
theorem gf_X0_38 : GF RX0 38 0 3 := ⟨RX0, TX0, 10, rfl, by decide, lay_X0, Or.inl (tsg_in (i := 138) (by decide +kernel) rfl)⟩
theorem pf_X0_38 : PF RX0 38 0 3 .int := ⟨RX0, TX0, 10, tyX0, rfl, by decide, lay_X0, Or.inl (tsg_in (i := 138) (by decide +kernel) rfl), tyX0_ok, nmX0, rfl, rfl⟩
theorem gf_X5_33 : GF RX5 33 0 3 := ⟨RX0, TX0, 10, rfl, by decide, lay_X0, Or.inr ⟨"ShadowRegistry", nws_in (i := 139) (by decide +kernel) rfl⟩⟩
theorem pf_X5_33 : PF RX5 33 0 3 .int := ⟨RX0, TX0, 10, tyX0, rfl, by decide, lay_X0, Or.inr ⟨"ShadowRegistry", nws_in (i := 139) (by decide +kernel) rfl⟩, tyX0_ok, nmX0, rfl, rfl⟩
theorem gf_X3_100 : GF RX3 100 0 3 := ⟨RX0, TX0, 10, rfl, by decide, lay_X0, Or.inr ⟨"ShadowRegistry", nws_in (i := 140) (by decide +kernel) rfl⟩⟩
theorem pf_X3_100 : PF RX3 100 0 3 .int := ⟨RX0, TX0, 10, tyX0, rfl, by decide, lay_X0, Or.inr ⟨"ShadowRegistry", nws_in (i := 140) (by decide +kernel) rfl⟩, tyX0_ok, nmX0, rfl, rfl⟩
theorem gf_X0_24 : GF RX0 24 0 4 := ⟨RX0, TX0, 10, rfl, by decide, lay_X0, Or.inl (tsg_in (i := 141) (by decide +kernel) rfl)⟩
theorem pff_X0_24 : PFF RX0 24 0 4 (.array (.object "ShadowRegistry$Law")) := ⟨RX0, TX0, 10, tyX0, rfl, by decide, rfl, rfl, lay_X0, tsg_in (i := 141) (by decide +kernel) rfl, tyX0_ok, nmX0, rfl, rfl⟩
theorem gf_X0_42 : GF RX0 42 0 5 := ⟨RX0, TX0, 10, rfl, by decide, lay_X0, Or.inl (tsg_in (i := 142) (by decide +kernel) rfl)⟩
theorem pf_X0_42 : PF RX0 42 0 5 .int := ⟨RX0, TX0, 10, tyX0, rfl, by decide, lay_X0, Or.inl (tsg_in (i := 142) (by decide +kernel) rfl), tyX0_ok, nmX0, rfl, rfl⟩
theorem gf_X4_19 : GF RX4 19 0 5 := ⟨RX0, TX0, 10, rfl, by decide, lay_X0, Or.inr ⟨"ShadowRegistry", nws_in (i := 143) (by decide +kernel) rfl⟩⟩
theorem pf_X4_19 : PF RX4 19 0 5 .int := ⟨RX0, TX0, 10, tyX0, rfl, by decide, lay_X0, Or.inr ⟨"ShadowRegistry", nws_in (i := 143) (by decide +kernel) rfl⟩, tyX0_ok, nmX0, rfl, rfl⟩
theorem gf_X3_127 : GF RX3 127 0 5 := ⟨RX0, TX0, 10, rfl, by decide, lay_X0, Or.inr ⟨"ShadowRegistry", nws_in (i := 144) (by decide +kernel) rfl⟩⟩
theorem pf_X3_127 : PF RX3 127 0 5 .int := ⟨RX0, TX0, 10, tyX0, rfl, by decide, lay_X0, Or.inr ⟨"ShadowRegistry", nws_in (i := 144) (by decide +kernel) rfl⟩, tyX0_ok, nmX0, rfl, rfl⟩
theorem gf_X8_98 : GF RX8 98 0 5 := ⟨RX0, TX0, 10, rfl, by decide, lay_X0, Or.inr ⟨"ShadowRegistry", nws_in (i := 145) (by decide +kernel) rfl⟩⟩
theorem pf_X8_98 : PF RX8 98 0 5 .int := ⟨RX0, TX0, 10, tyX0, rfl, by decide, lay_X0, Or.inr ⟨"ShadowRegistry", nws_in (i := 145) (by decide +kernel) rfl⟩, tyX0_ok, nmX0, rfl, rfl⟩
theorem gf_X0_28 : GF RX0 28 0 6 := ⟨RX0, TX0, 10, rfl, by decide, lay_X0, Or.inl (tsg_in (i := 146) (by decide +kernel) rfl)⟩
theorem pff_X0_28 : PFF RX0 28 0 6 (.array .int) := ⟨RX0, TX0, 10, tyX0, rfl, by decide, rfl, rfl, lay_X0, tsg_in (i := 146) (by decide +kernel) rfl, tyX0_ok, nmX0, rfl, rfl⟩
theorem gf_X4_90 : GF RX4 90 0 6 := ⟨RX0, TX0, 10, rfl, by decide, lay_X0, Or.inr ⟨"ShadowRegistry", nws_in (i := 147) (by decide +kernel) rfl⟩⟩
theorem gf_X0_31 : GF RX0 31 0 7 := ⟨RX0, TX0, 10, rfl, by decide, lay_X0, Or.inl (tsg_in (i := 148) (by decide +kernel) rfl)⟩
theorem pff_X0_31 : PFF RX0 31 0 7 (.array .int) := ⟨RX0, TX0, 10, tyX0, rfl, by decide, rfl, rfl, lay_X0, tsg_in (i := 148) (by decide +kernel) rfl, tyX0_ok, nmX0, rfl, rfl⟩
theorem gf_X4_93 : GF RX4 93 0 7 := ⟨RX0, TX0, 10, rfl, by decide, lay_X0, Or.inr ⟨"ShadowRegistry", nws_in (i := 149) (by decide +kernel) rfl⟩⟩
theorem gf_X0_34 : GF RX0 34 0 8 := ⟨RX0, TX0, 10, rfl, by decide, lay_X0, Or.inl (tsg_in (i := 150) (by decide +kernel) rfl)⟩
theorem pff_X0_34 : PFF RX0 34 0 8 (.array .int) := ⟨RX0, TX0, 10, tyX0, rfl, by decide, rfl, rfl, lay_X0, tsg_in (i := 150) (by decide +kernel) rfl, tyX0_ok, nmX0, rfl, rfl⟩
theorem gf_X4_96 : GF RX4 96 0 8 := ⟨RX0, TX0, 10, rfl, by decide, lay_X0, Or.inr ⟨"ShadowRegistry", nws_in (i := 151) (by decide +kernel) rfl⟩⟩
theorem gf_X0_45 : GF RX0 45 0 9 := ⟨RX0, TX0, 10, rfl, by decide, lay_X0, Or.inl (tsg_in (i := 152) (by decide +kernel) rfl)⟩
theorem pf_X0_45 : PF RX0 45 0 9 .int := ⟨RX0, TX0, 10, tyX0, rfl, by decide, lay_X0, Or.inl (tsg_in (i := 152) (by decide +kernel) rfl), tyX0_ok, nmX0, rfl, rfl⟩
theorem gf_X3_133 : GF RX3 133 0 9 := ⟨RX0, TX0, 10, rfl, by decide, lay_X0, Or.inr ⟨"ShadowRegistry", nws_in (i := 153) (by decide +kernel) rfl⟩⟩
theorem pf_X3_133 : PF RX3 133 0 9 .int := ⟨RX0, TX0, 10, tyX0, rfl, by decide, lay_X0, Or.inr ⟨"ShadowRegistry", nws_in (i := 153) (by decide +kernel) rfl⟩, tyX0_ok, nmX0, rfl, rfl⟩
theorem gf_X7_25 : GF RX7 25 6 0 := ⟨RX7, TX7, 5, rfl, by decide, lay_X7, Or.inl (tsg_in (i := 185) (by decide +kernel) rfl)⟩
theorem pff_X7_25 : PFF RX7 25 6 0 (.object "ShadowRegistry$Tape") := ⟨RX7, TX7, 5, tyX7, rfl, by decide, rfl, rfl, lay_X7, tsg_in (i := 185) (by decide +kernel) rfl, tyX7_ok, nmX7, rfl, rfl⟩
theorem gf_X7_11 : GF RX7 11 6 1 := ⟨RX7, TX7, 5, rfl, by decide, lay_X7, Or.inl (tsg_in (i := 186) (by decide +kernel) rfl)⟩
theorem pff_X7_11 : PFF RX7 11 6 1 (.array (.object "ShadowRegistry$Kind")) := ⟨RX7, TX7, 5, tyX7, rfl, by decide, rfl, rfl, lay_X7, tsg_in (i := 186) (by decide +kernel) rfl, tyX7_ok, nmX7, rfl, rfl⟩
theorem gf_X7_17 : GF RX7 17 6 2 := ⟨RX7, TX7, 5, rfl, by decide, lay_X7, Or.inl (tsg_in (i := 187) (by decide +kernel) rfl)⟩
theorem pff_X7_17 : PFF RX7 17 6 2 (.array .int) := ⟨RX7, TX7, 5, tyX7, rfl, by decide, rfl, rfl, lay_X7, tsg_in (i := 187) (by decide +kernel) rfl, tyX7_ok, nmX7, rfl, rfl⟩
theorem gf_X7_21 : GF RX7 21 6 3 := ⟨RX7, TX7, 5, rfl, by decide, lay_X7, Or.inl (tsg_in (i := 188) (by decide +kernel) rfl)⟩
theorem pff_X7_21 : PFF RX7 21 6 3 (.array .long) := ⟨RX7, TX7, 5, tyX7, rfl, by decide, rfl, rfl, lay_X7, tsg_in (i := 188) (by decide +kernel) rfl, tyX7_ok, nmX7, rfl, rfl⟩
theorem gf_X7_29 : GF RX7 29 6 4 := ⟨RX7, TX7, 5, rfl, by decide, lay_X7, Or.inl (tsg_in (i := 189) (by decide +kernel) rfl)⟩
theorem pf_X7_29 : PF RX7 29 6 4 .int := ⟨RX7, TX7, 5, tyX7, rfl, by decide, lay_X7, Or.inl (tsg_in (i := 189) (by decide +kernel) rfl), tyX7_ok, nmX7, rfl, rfl⟩
theorem kf_X3_18 : KF RX3 18 42 := ⟨by decide, tsg_in (i := 207) (by decide +kernel) rfl⟩
theorem gf_X3_27 : GF RX3 27 2 0 := ⟨RX3, TX3, 9, rfl, by decide, lay_X3, Or.inl (tsg_in (i := 209) (by decide +kernel) rfl)⟩
theorem pff_X3_27 : PFF RX3 27 2 0 (.object "ShadowRegistry$Tokens") := ⟨RX3, TX3, 9, tyX3, rfl, by decide, rfl, rfl, lay_X3, tsg_in (i := 209) (by decide +kernel) rfl, tyX3_ok, nmX3, rfl, rfl⟩
theorem gf_X3_31 : GF RX3 31 2 1 := ⟨RX3, TX3, 9, rfl, by decide, lay_X3, Or.inl (tsg_in (i := 210) (by decide +kernel) rfl)⟩
theorem pff_X3_31 : PFF RX3 31 2 1 (.object "ShadowRegistry$Book") := ⟨RX3, TX3, 9, tyX3, rfl, by decide, rfl, rfl, lay_X3, tsg_in (i := 210) (by decide +kernel) rfl, tyX3_ok, nmX3, rfl, rfl⟩
theorem gf_X3_12 : GF RX3 12 2 2 := ⟨RX3, TX3, 9, rfl, by decide, lay_X3, Or.inl (tsg_in (i := 211) (by decide +kernel) rfl)⟩
theorem pff_X3_12 : PFF RX3 12 2 2 (.object "ShadowRegistry$Law") := ⟨RX3, TX3, 9, tyX3, rfl, by decide, rfl, rfl, lay_X3, tsg_in (i := 211) (by decide +kernel) rfl, tyX3_ok, nmX3, rfl, rfl⟩
theorem gf_X3_49 : GF RX3 49 2 3 := ⟨RX3, TX3, 9, rfl, by decide, lay_X3, Or.inl (tsg_in (i := 212) (by decide +kernel) rfl)⟩
theorem pf_X3_49 : PF RX3 49 2 3 .int := ⟨RX3, TX3, 9, tyX3, rfl, by decide, lay_X3, Or.inl (tsg_in (i := 212) (by decide +kernel) rfl), tyX3_ok, nmX3, rfl, rfl⟩
theorem gf_X3_57 : GF RX3 57 2 4 := ⟨RX3, TX3, 9, rfl, by decide, lay_X3, Or.inl (tsg_in (i := 213) (by decide +kernel) rfl)⟩
theorem pf_X3_57 : PF RX3 57 2 4 .int := ⟨RX3, TX3, 9, tyX3, rfl, by decide, lay_X3, Or.inl (tsg_in (i := 213) (by decide +kernel) rfl), tyX3_ok, nmX3, rfl, rfl⟩
theorem gf_X3_24 : GF RX3 24 2 5 := ⟨RX3, TX3, 9, rfl, by decide, lay_X3, Or.inl (tsg_in (i := 214) (by decide +kernel) rfl)⟩
theorem pf_X3_24 : PF RX3 24 2 5 (.object "ShadowRegistry$Kind") := ⟨RX3, TX3, 9, tyX3, rfl, by decide, lay_X3, Or.inl (tsg_in (i := 214) (by decide +kernel) rfl), tyX3_ok, nmX3, rfl, rfl⟩
theorem gf_X3_45 : GF RX3 45 2 6 := ⟨RX3, TX3, 9, rfl, by decide, lay_X3, Or.inl (tsg_in (i := 215) (by decide +kernel) rfl)⟩
theorem pf_X3_45 : PF RX3 45 2 6 .boolean := ⟨RX3, TX3, 9, tyX3, rfl, by decide, lay_X3, Or.inl (tsg_in (i := 215) (by decide +kernel) rfl), tyX3_ok, nmX3, rfl, rfl⟩
theorem gf_X3_64 : GF RX3 64 2 7 := ⟨RX3, TX3, 9, rfl, by decide, lay_X3, Or.inl (tsg_in (i := 216) (by decide +kernel) rfl)⟩
theorem pf_X3_64 : PF RX3 64 2 7 .int := ⟨RX3, TX3, 9, tyX3, rfl, by decide, lay_X3, Or.inl (tsg_in (i := 216) (by decide +kernel) rfl), tyX3_ok, nmX3, rfl, rfl⟩
theorem gf_X3_67 : GF RX3 67 2 8 := ⟨RX3, TX3, 9, rfl, by decide, lay_X3, Or.inl (tsg_in (i := 217) (by decide +kernel) rfl)⟩
theorem pf_X3_67 : PF RX3 67 2 8 .int := ⟨RX3, TX3, 9, tyX3, rfl, by decide, lay_X3, Or.inl (tsg_in (i := 217) (by decide +kernel) rfl), tyX3_ok, nmX3, rfl, rfl⟩
theorem gf_X8_86 : GF RX8 86 2 8 := ⟨RX3, TX3, 9, rfl, by decide, lay_X3, Or.inr ⟨"ShadowRegistry", nws_in (i := 218) (by decide +kernel) rfl⟩⟩
theorem pf_X8_86 : PF RX8 86 2 8 .int := ⟨RX3, TX3, 9, tyX3, rfl, by decide, lay_X3, Or.inr ⟨"ShadowRegistry", nws_in (i := 218) (by decide +kernel) rfl⟩, tyX3_ok, nmX3, rfl, rfl⟩
theorem gf_X4_15 : GF RX4 15 3 0 := ⟨RX4, TX4, 3, rfl, by decide, lay_X4, Or.inl (tsg_in (i := 244) (by decide +kernel) rfl)⟩
theorem pff_X4_15 : PFF RX4 15 3 0 (.object "ShadowRegistry$Book") := ⟨RX4, TX4, 3, tyX4, rfl, by decide, rfl, rfl, lay_X4, tsg_in (i := 244) (by decide +kernel) rfl, tyX4_ok, nmX4, rfl, rfl⟩
theorem gf_X4_9 : GF RX4 9 3 1 := ⟨RX4, TX4, 3, rfl, by decide, lay_X4, Or.inl (tsg_in (i := 245) (by decide +kernel) rfl)⟩
theorem pff_X4_9 : PFF RX4 9 3 1 (.array .int) := ⟨RX4, TX4, 3, tyX4, rfl, by decide, rfl, rfl, lay_X4, tsg_in (i := 245) (by decide +kernel) rfl, tyX4_ok, nmX4, rfl, rfl⟩
theorem gf_X4_81 : GF RX4 81 3 2 := ⟨RX4, TX4, 3, rfl, by decide, lay_X4, Or.inl (tsg_in (i := 246) (by decide +kernel) rfl)⟩
theorem pf_X4_81 : PF RX4 81 3 2 .int := ⟨RX4, TX4, 3, tyX4, rfl, by decide, lay_X4, Or.inl (tsg_in (i := 246) (by decide +kernel) rfl), tyX4_ok, nmX4, rfl, rfl⟩
theorem gf_X5_43 : GF RX5 43 4 0 := ⟨RX5, TX5, 11, rfl, by decide, lay_X5, Or.inl (tsg_in (i := 260) (by decide +kernel) rfl)⟩
theorem pf_X5_43 : PF RX5 43 4 0 .int := ⟨RX5, TX5, 11, tyX5, rfl, by decide, lay_X5, Or.inl (tsg_in (i := 260) (by decide +kernel) rfl), tyX5_ok, nmX5, rfl, rfl⟩
theorem gf_X8_95 : GF RX8 95 4 0 := ⟨RX5, TX5, 11, rfl, by decide, lay_X5, Or.inr ⟨"ShadowRegistry", nws_in (i := 261) (by decide +kernel) rfl⟩⟩
theorem pf_X8_95 : PF RX8 95 4 0 .int := ⟨RX5, TX5, 11, tyX5, rfl, by decide, lay_X5, Or.inr ⟨"ShadowRegistry", nws_in (i := 261) (by decide +kernel) rfl⟩, tyX5_ok, nmX5, rfl, rfl⟩
theorem gf_X5_46 : GF RX5 46 4 1 := ⟨RX5, TX5, 11, rfl, by decide, lay_X5, Or.inl (tsg_in (i := 262) (by decide +kernel) rfl)⟩
theorem pf_X5_46 : PF RX5 46 4 1 .int := ⟨RX5, TX5, 11, tyX5, rfl, by decide, lay_X5, Or.inl (tsg_in (i := 262) (by decide +kernel) rfl), tyX5_ok, nmX5, rfl, rfl⟩
theorem gf_X4_38 : GF RX4 38 4 1 := ⟨RX5, TX5, 11, rfl, by decide, lay_X5, Or.inr ⟨"ShadowRegistry", nws_in (i := 263) (by decide +kernel) rfl⟩⟩
theorem pf_X4_38 : PF RX4 38 4 1 .int := ⟨RX5, TX5, 11, tyX5, rfl, by decide, lay_X5, Or.inr ⟨"ShadowRegistry", nws_in (i := 263) (by decide +kernel) rfl⟩, tyX5_ok, nmX5, rfl, rfl⟩
theorem gf_X8_101 : GF RX8 101 4 1 := ⟨RX5, TX5, 11, rfl, by decide, lay_X5, Or.inr ⟨"ShadowRegistry", nws_in (i := 264) (by decide +kernel) rfl⟩⟩
theorem pf_X8_101 : PF RX8 101 4 1 .int := ⟨RX5, TX5, 11, tyX5, rfl, by decide, lay_X5, Or.inr ⟨"ShadowRegistry", nws_in (i := 264) (by decide +kernel) rfl⟩, tyX5_ok, nmX5, rfl, rfl⟩
theorem gf_X5_49 : GF RX5 49 4 2 := ⟨RX5, TX5, 11, rfl, by decide, lay_X5, Or.inl (tsg_in (i := 265) (by decide +kernel) rfl)⟩
theorem pf_X5_49 : PF RX5 49 4 2 .int := ⟨RX5, TX5, 11, tyX5, rfl, by decide, lay_X5, Or.inl (tsg_in (i := 265) (by decide +kernel) rfl), tyX5_ok, nmX5, rfl, rfl⟩
theorem gf_X4_33 : GF RX4 33 4 2 := ⟨RX5, TX5, 11, rfl, by decide, lay_X5, Or.inr ⟨"ShadowRegistry", nws_in (i := 266) (by decide +kernel) rfl⟩⟩
theorem pf_X4_33 : PF RX4 33 4 2 .int := ⟨RX5, TX5, 11, tyX5, rfl, by decide, lay_X5, Or.inr ⟨"ShadowRegistry", nws_in (i := 266) (by decide +kernel) rfl⟩, tyX5_ok, nmX5, rfl, rfl⟩
theorem gf_X8_104 : GF RX8 104 4 2 := ⟨RX5, TX5, 11, rfl, by decide, lay_X5, Or.inr ⟨"ShadowRegistry", nws_in (i := 267) (by decide +kernel) rfl⟩⟩
theorem pf_X8_104 : PF RX8 104 4 2 .int := ⟨RX5, TX5, 11, tyX5, rfl, by decide, lay_X5, Or.inr ⟨"ShadowRegistry", nws_in (i := 267) (by decide +kernel) rfl⟩, tyX5_ok, nmX5, rfl, rfl⟩
theorem gf_X5_61 : GF RX5 61 4 3 := ⟨RX5, TX5, 11, rfl, by decide, lay_X5, Or.inl (tsg_in (i := 268) (by decide +kernel) rfl)⟩
theorem pf_X5_61 : PF RX5 61 4 3 .int := ⟨RX5, TX5, 11, tyX5, rfl, by decide, lay_X5, Or.inl (tsg_in (i := 268) (by decide +kernel) rfl), tyX5_ok, nmX5, rfl, rfl⟩
theorem gf_X8_107 : GF RX8 107 4 3 := ⟨RX5, TX5, 11, rfl, by decide, lay_X5, Or.inr ⟨"ShadowRegistry", nws_in (i := 269) (by decide +kernel) rfl⟩⟩
theorem pf_X8_107 : PF RX8 107 4 3 .int := ⟨RX5, TX5, 11, tyX5, rfl, by decide, lay_X5, Or.inr ⟨"ShadowRegistry", nws_in (i := 269) (by decide +kernel) rfl⟩, tyX5_ok, nmX5, rfl, rfl⟩
theorem gf_X5_9 : GF RX5 9 4 4 := ⟨RX5, TX5, 11, rfl, by decide, lay_X5, Or.inl (tsg_in (i := 270) (by decide +kernel) rfl)⟩
theorem pff_X5_9 : PFF RX5 9 4 4 (.array .int) := ⟨RX5, TX5, 11, tyX5, rfl, by decide, rfl, rfl, lay_X5, tsg_in (i := 270) (by decide +kernel) rfl, tyX5_ok, nmX5, rfl, rfl⟩
theorem gf_X5_15 : GF RX5 15 4 5 := ⟨RX5, TX5, 11, rfl, by decide, lay_X5, Or.inl (tsg_in (i := 271) (by decide +kernel) rfl)⟩
theorem pff_X5_15 : PFF RX5 15 4 5 (.array .int) := ⟨RX5, TX5, 11, tyX5, rfl, by decide, rfl, rfl, lay_X5, tsg_in (i := 271) (by decide +kernel) rfl, tyX5_ok, nmX5, rfl, rfl⟩
theorem gf_X5_18 : GF RX5 18 4 6 := ⟨RX5, TX5, 11, rfl, by decide, lay_X5, Or.inl (tsg_in (i := 272) (by decide +kernel) rfl)⟩
theorem pff_X5_18 : PFF RX5 18 4 6 (.array .int) := ⟨RX5, TX5, 11, tyX5, rfl, by decide, rfl, rfl, lay_X5, tsg_in (i := 272) (by decide +kernel) rfl, tyX5_ok, nmX5, rfl, rfl⟩
theorem gf_X5_21 : GF RX5 21 4 7 := ⟨RX5, TX5, 11, rfl, by decide, lay_X5, Or.inl (tsg_in (i := 273) (by decide +kernel) rfl)⟩
theorem pff_X5_21 : PFF RX5 21 4 7 (.array .int) := ⟨RX5, TX5, 11, tyX5, rfl, by decide, rfl, rfl, lay_X5, tsg_in (i := 273) (by decide +kernel) rfl, tyX5_ok, nmX5, rfl, rfl⟩
theorem gf_X5_24 : GF RX5 24 4 8 := ⟨RX5, TX5, 11, rfl, by decide, lay_X5, Or.inl (tsg_in (i := 274) (by decide +kernel) rfl)⟩
theorem pff_X5_24 : PFF RX5 24 4 8 (.array .int) := ⟨RX5, TX5, 11, tyX5, rfl, by decide, rfl, rfl, lay_X5, tsg_in (i := 274) (by decide +kernel) rfl, tyX5_ok, nmX5, rfl, rfl⟩
theorem gf_X5_27 : GF RX5 27 4 9 := ⟨RX5, TX5, 11, rfl, by decide, lay_X5, Or.inl (tsg_in (i := 275) (by decide +kernel) rfl)⟩
theorem pff_X5_27 : PFF RX5 27 4 9 (.array .int) := ⟨RX5, TX5, 11, tyX5, rfl, by decide, rfl, rfl, lay_X5, tsg_in (i := 275) (by decide +kernel) rfl, tyX5_ok, nmX5, rfl, rfl⟩
theorem gf_X5_30 : GF RX5 30 4 10 := ⟨RX5, TX5, 11, rfl, by decide, lay_X5, Or.inl (tsg_in (i := 276) (by decide +kernel) rfl)⟩
theorem pff_X5_30 : PFF RX5 30 4 10 (.array .int) := ⟨RX5, TX5, 11, tyX5, rfl, by decide, rfl, rfl, lay_X5, tsg_in (i := 276) (by decide +kernel) rfl, tyX5_ok, nmX5, rfl, rfl⟩
theorem gf_X8_12 : GF RX8 12 7 0 := ⟨RX8, TX8, 8, rfl, by decide, lay_X8, Or.inl (tsg_in (i := 300) (by decide +kernel) rfl)⟩
theorem pff_X8_12 : PFF RX8 12 7 0 (.object "ShadowRegistry$Tape") := ⟨RX8, TX8, 8, tyX8, rfl, by decide, rfl, rfl, lay_X8, tsg_in (i := 300) (by decide +kernel) rfl, tyX8_ok, nmX8, rfl, rfl⟩
theorem gf_X8_19 : GF RX8 19 7 1 := ⟨RX8, TX8, 8, rfl, by decide, lay_X8, Or.inl (tsg_in (i := 301) (by decide +kernel) rfl)⟩
theorem pff_X8_19 : PFF RX8 19 7 1 (.object "ShadowRegistry$Book") := ⟨RX8, TX8, 8, tyX8, rfl, by decide, rfl, rfl, lay_X8, tsg_in (i := 301) (by decide +kernel) rfl, tyX8_ok, nmX8, rfl, rfl⟩
theorem gf_X8_33 : GF RX8 33 7 2 := ⟨RX8, TX8, 8, rfl, by decide, lay_X8, Or.inl (tsg_in (i := 302) (by decide +kernel) rfl)⟩
theorem pff_X8_33 : PFF RX8 33 7 2 (.object "ShadowRegistry$Parser") := ⟨RX8, TX8, 8, tyX8, rfl, by decide, rfl, rfl, lay_X8, tsg_in (i := 302) (by decide +kernel) rfl, tyX8_ok, nmX8, rfl, rfl⟩
theorem gf_X8_37 : GF RX8 37 7 3 := ⟨RX8, TX8, 8, rfl, by decide, lay_X8, Or.inl (tsg_in (i := 303) (by decide +kernel) rfl)⟩
theorem pff_X8_37 : PFF RX8 37 7 3 (.object "ShadowRegistry$Book") := ⟨RX8, TX8, 8, tyX8, rfl, by decide, rfl, rfl, lay_X8, tsg_in (i := 303) (by decide +kernel) rfl, tyX8_ok, nmX8, rfl, rfl⟩
theorem gf_X8_45 : GF RX8 45 7 4 := ⟨RX8, TX8, 8, rfl, by decide, lay_X8, Or.inl (tsg_in (i := 304) (by decide +kernel) rfl)⟩
theorem pff_X8_45 : PFF RX8 45 7 4 (.object "ShadowRegistry$Reckoner") := ⟨RX8, TX8, 8, tyX8, rfl, by decide, rfl, rfl, lay_X8, tsg_in (i := 304) (by decide +kernel) rfl, tyX8_ok, nmX8, rfl, rfl⟩
theorem gf_X8_52 : GF RX8 52 7 5 := ⟨RX8, TX8, 8, rfl, by decide, lay_X8, Or.inl (tsg_in (i := 305) (by decide +kernel) rfl)⟩
theorem pff_X8_52 : PFF RX8 52 7 5 (.object "ShadowRegistry$Street") := ⟨RX8, TX8, 8, tyX8, rfl, by decide, rfl, rfl, lay_X8, tsg_in (i := 305) (by decide +kernel) rfl, tyX8_ok, nmX8, rfl, rfl⟩
theorem gf_X8_56 : GF RX8 56 7 6 := ⟨RX8, TX8, 8, rfl, by decide, lay_X8, Or.inl (tsg_in (i := 306) (by decide +kernel) rfl)⟩
theorem pff_X8_56 : PFF RX8 56 7 6 (.object "ShadowRegistry$Street") := ⟨RX8, TX8, 8, tyX8, rfl, by decide, rfl, rfl, lay_X8, tsg_in (i := 306) (by decide +kernel) rfl, tyX8_ok, nmX8, rfl, rfl⟩
theorem gf_X8_59 : GF RX8 59 7 7 := ⟨RX8, TX8, 8, rfl, by decide, lay_X8, Or.inl (tsg_in (i := 307) (by decide +kernel) rfl)⟩
theorem pf_X8_59 : PF RX8 59 7 7 .int := ⟨RX8, TX8, 8, tyX8, rfl, by decide, lay_X8, Or.inl (tsg_in (i := 307) (by decide +kernel) rfl), tyX8_ok, nmX8, rfl, rfl⟩
theorem kf_X7_40 : KF RX7 40 41 := ⟨by decide, tsg_in (i := 915) (by decide +kernel) rfl⟩
theorem kf_X7_56 : KF RX7 56 42 := ⟨by decide, tsg_in (i := 921) (by decide +kernel) rfl⟩
theorem sk_X7_80 : Cond.fieldLinkNest RX7 80 RX8 "KINDS" "[LShadowRegistry$Kind;" "ShadowRegistry" ∈ NWs := nws_in (i := 936) (by decide +kernel) rfl
theorem kf_X7_87 : KF RX7 87 39 := ⟨by decide, tsg_in (i := 938) (by decide +kernel) rfl⟩
theorem kf_X7_92 : KF RX7 92 40 := ⟨by decide, tsg_in (i := 945) (by decide +kernel) rfl⟩
theorem kf_X7_95 : KF RX7 95 37 := ⟨by decide, tsg_in (i := 951) (by decide +kernel) rfl⟩
theorem kf_X7_98 : KF RX7 98 38 := ⟨by decide, tsg_in (i := 953) (by decide +kernel) rfl⟩
theorem kf_X7_105 : KF RX7 105 24 := ⟨by decide, tsg_in (i := 958) (by decide +kernel) rfl⟩
theorem kf_X7_108 : KF RX7 108 25 := ⟨by decide, tsg_in (i := 960) (by decide +kernel) rfl⟩
theorem kf_X7_111 : KF RX7 111 26 := ⟨by decide, tsg_in (i := 962) (by decide +kernel) rfl⟩
theorem kf_X7_114 : KF RX7 114 27 := ⟨by decide, tsg_in (i := 964) (by decide +kernel) rfl⟩
theorem kf_X7_117 : KF RX7 117 28 := ⟨by decide, tsg_in (i := 966) (by decide +kernel) rfl⟩
theorem kf_X7_120 : KF RX7 120 29 := ⟨by decide, tsg_in (i := 968) (by decide +kernel) rfl⟩
theorem kf_X7_123 : KF RX7 123 30 := ⟨by decide, tsg_in (i := 970) (by decide +kernel) rfl⟩
theorem kf_X7_126 : KF RX7 126 31 := ⟨by decide, tsg_in (i := 972) (by decide +kernel) rfl⟩
theorem kf_X7_129 : KF RX7 129 32 := ⟨by decide, tsg_in (i := 974) (by decide +kernel) rfl⟩
theorem kf_X7_132 : KF RX7 132 33 := ⟨by decide, tsg_in (i := 976) (by decide +kernel) rfl⟩
theorem kf_X7_135 : KF RX7 135 34 := ⟨by decide, tsg_in (i := 978) (by decide +kernel) rfl⟩
theorem kf_X7_138 : KF RX7 138 35 := ⟨by decide, tsg_in (i := 980) (by decide +kernel) rfl⟩
theorem kf_X7_141 : KF RX7 141 36 := ⟨by decide, tsg_in (i := 982) (by decide +kernel) rfl⟩
theorem kf_X3_70 : KF RX3 70 41 := ⟨by decide, tsg_in (i := 996) (by decide +kernel) rfl⟩
theorem kf_X3_73 : KF RX3 73 0 := ⟨by decide, tsg_in (i := 997) (by decide +kernel) rfl⟩
theorem kf_X3_89 : KF RX3 89 39 := ⟨by decide, tsg_in (i := 1015) (by decide +kernel) rfl⟩
theorem kf_X3_103 : KF RX3 103 1 := ⟨by decide, tsg_in (i := 1024) (by decide +kernel) rfl⟩
theorem kf_X3_106 : KF RX3 106 40 := ⟨by decide, tsg_in (i := 1026) (by decide +kernel) rfl⟩
theorem kf_X3_115 : KF RX3 115 2 := ⟨by decide, tsg_in (i := 1032) (by decide +kernel) rfl⟩
theorem kf_X3_124 : KF RX3 124 3 := ⟨by decide, tsg_in (i := 1043) (by decide +kernel) rfl⟩
theorem kf_X3_159 : KF RX3 159 4 := ⟨by decide, tsg_in (i := 1049) (by decide +kernel) rfl⟩
theorem kf_X3_171 : KF RX3 171 5 := ⟨by decide, tsg_in (i := 1055) (by decide +kernel) rfl⟩
theorem kf_X3_264 : KF RX3 264 11 := ⟨by decide, tsg_in (i := 1073) (by decide +kernel) rfl⟩
theorem kf_X3_267 : KF RX3 267 15 := ⟨by decide, tsg_in (i := 1075) (by decide +kernel) rfl⟩
theorem kf_X3_270 : KF RX3 270 12 := ⟨by decide, tsg_in (i := 1077) (by decide +kernel) rfl⟩
theorem kf_X3_273 : KF RX3 273 13 := ⟨by decide, tsg_in (i := 1079) (by decide +kernel) rfl⟩
theorem kf_X3_276 : KF RX3 276 14 := ⟨by decide, tsg_in (i := 1081) (by decide +kernel) rfl⟩
theorem kf_X3_279 : KF RX3 279 16 := ⟨by decide, tsg_in (i := 1083) (by decide +kernel) rfl⟩
theorem kf_X3_252 : KF RX3 252 31 := ⟨by decide, tsg_in (i := 1085) (by decide +kernel) rfl⟩
theorem kf_X3_282 : KF RX3 282 24 := ⟨by decide, tsg_in (i := 1090) (by decide +kernel) rfl⟩
theorem kf_X3_285 : KF RX3 285 25 := ⟨by decide, tsg_in (i := 1091) (by decide +kernel) rfl⟩
theorem kf_X3_288 : KF RX3 288 22 := ⟨by decide, tsg_in (i := 1092) (by decide +kernel) rfl⟩
theorem kf_X3_291 : KF RX3 291 23 := ⟨by decide, tsg_in (i := 1094) (by decide +kernel) rfl⟩
theorem kf_X3_297 : KF RX3 297 29 := ⟨by decide, tsg_in (i := 1100) (by decide +kernel) rfl⟩
theorem kf_X3_258 : KF RX3 258 32 := ⟨by decide, tsg_in (i := 1101) (by decide +kernel) rfl⟩
theorem kf_X3_261 : KF RX3 261 33 := ⟨by decide, tsg_in (i := 1102) (by decide +kernel) rfl⟩
theorem kf_X3_249 : KF RX3 249 30 := ⟨by decide, tsg_in (i := 1103) (by decide +kernel) rfl⟩
theorem kf_X3_177 : KF RX3 177 6 := ⟨by decide, tsg_in (i := 1104) (by decide +kernel) rfl⟩
theorem kf_X3_180 : KF RX3 180 7 := ⟨by decide, tsg_in (i := 1106) (by decide +kernel) rfl⟩
theorem kf_X3_183 : KF RX3 183 8 := ⟨by decide, tsg_in (i := 1108) (by decide +kernel) rfl⟩
theorem kf_X3_186 : KF RX3 186 9 := ⟨by decide, tsg_in (i := 1110) (by decide +kernel) rfl⟩
theorem kf_X3_139 : KF RX3 139 10 := ⟨by decide, tsg_in (i := 1112) (by decide +kernel) rfl⟩
theorem kf_X3_205 : KF RX3 205 19 := ⟨by decide, tsg_in (i := 1126) (by decide +kernel) rfl⟩
theorem kf_X3_212 : KF RX3 212 26 := ⟨by decide, tsg_in (i := 1128) (by decide +kernel) rfl⟩
theorem kf_X3_215 : KF RX3 215 27 := ⟨by decide, tsg_in (i := 1129) (by decide +kernel) rfl⟩
theorem kf_X3_218 : KF RX3 218 17 := ⟨by decide, tsg_in (i := 1130) (by decide +kernel) rfl⟩
theorem kf_X3_221 : KF RX3 221 18 := ⟨by decide, tsg_in (i := 1132) (by decide +kernel) rfl⟩
theorem kf_X3_231 : KF RX3 231 34 := ⟨by decide, tsg_in (i := 1137) (by decide +kernel) rfl⟩
theorem kf_X3_234 : KF RX3 234 35 := ⟨by decide, tsg_in (i := 1138) (by decide +kernel) rfl⟩
theorem kf_X3_237 : KF RX3 237 36 := ⟨by decide, tsg_in (i := 1139) (by decide +kernel) rfl⟩
theorem kf_X3_240 : KF RX3 240 37 := ⟨by decide, tsg_in (i := 1140) (by decide +kernel) rfl⟩
theorem kf_X3_243 : KF RX3 243 38 := ⟨by decide, tsg_in (i := 1141) (by decide +kernel) rfl⟩
theorem kf_X3_202 : KF RX3 202 20 := ⟨by decide, tsg_in (i := 1142) (by decide +kernel) rfl⟩
theorem kf_X3_192 : KF RX3 192 21 := ⟨by decide, tsg_in (i := 1144) (by decide +kernel) rfl⟩
theorem kf_X3_82 : KF RX3 82 28 := ⟨by decide, tsg_in (i := 1154) (by decide +kernel) rfl⟩
theorem gf_X9_9 : GF RX9 9 8 0 := ⟨RX9, TX9, 7, rfl, by decide, lay_X9, Or.inl (tsg_in (i := 1182) (by decide +kernel) rfl)⟩
theorem pf_X9_9 : PF RX9 9 8 0 (.array (.array .int)) := ⟨RX9, TX9, 7, tyX9, rfl, by decide, lay_X9, Or.inl (tsg_in (i := 1182) (by decide +kernel) rfl), tyX9_ok, nmX9, rfl, rfl⟩
theorem gf_X10_32 : GF RX10 32 8 0 := ⟨RX9, TX9, 7, rfl, by decide, lay_X9, Or.inl (tsg_in (i := 1183) (by decide +kernel) rfl)⟩
theorem pf_X10_32 : PF RX10 32 8 0 (.array (.array .int)) := ⟨RX9, TX9, 7, tyX9, rfl, by decide, lay_X9, Or.inl (tsg_in (i := 1183) (by decide +kernel) rfl), tyX9_ok, nmX9, rfl, rfl⟩
theorem gf_L_73 : GF RL 73 8 0 := ⟨RX9, TX9, 7, rfl, by decide, lay_X9, Or.inl (tsg_in (i := 1184) (by decide +kernel) rfl)⟩
theorem pf_L_73 : PF RL 73 8 0 (.array (.array .int)) := ⟨RX9, TX9, 7, tyX9, rfl, by decide, lay_X9, Or.inl (tsg_in (i := 1184) (by decide +kernel) rfl), tyX9_ok, nmX9, rfl, rfl⟩
theorem gf_X9_15 : GF RX9 15 8 1 := ⟨RX9, TX9, 7, rfl, by decide, lay_X9, Or.inl (tsg_in (i := 1185) (by decide +kernel) rfl)⟩
theorem pf_X9_15 : PF RX9 15 8 1 (.array (.array .int)) := ⟨RX9, TX9, 7, tyX9, rfl, by decide, lay_X9, Or.inl (tsg_in (i := 1185) (by decide +kernel) rfl), tyX9_ok, nmX9, rfl, rfl⟩
theorem gf_L_108 : GF RL 108 8 1 := ⟨RX9, TX9, 7, rfl, by decide, lay_X9, Or.inl (tsg_in (i := 1186) (by decide +kernel) rfl)⟩
theorem pf_L_108 : PF RL 108 8 1 (.array (.array .int)) := ⟨RX9, TX9, 7, tyX9, rfl, by decide, lay_X9, Or.inl (tsg_in (i := 1186) (by decide +kernel) rfl), tyX9_ok, nmX9, rfl, rfl⟩
theorem gf_X9_20 : GF RX9 20 8 2 := ⟨RX9, TX9, 7, rfl, by decide, lay_X9, Or.inl (tsg_in (i := 1187) (by decide +kernel) rfl)⟩
theorem pf_X9_20 : PF RX9 20 8 2 (.array (.object "ShadowRegistryLaw$Tree")) := ⟨RX9, TX9, 7, tyX9, rfl, by decide, lay_X9, Or.inl (tsg_in (i := 1187) (by decide +kernel) rfl), tyX9_ok, nmX9, rfl, rfl⟩
theorem gf_L_98 : GF RL 98 8 2 := ⟨RX9, TX9, 7, rfl, by decide, lay_X9, Or.inl (tsg_in (i := 1188) (by decide +kernel) rfl)⟩
theorem pf_L_98 : PF RL 98 8 2 (.array (.object "ShadowRegistryLaw$Tree")) := ⟨RX9, TX9, 7, tyX9, rfl, by decide, lay_X9, Or.inl (tsg_in (i := 1188) (by decide +kernel) rfl), tyX9_ok, nmX9, rfl, rfl⟩
theorem gf_X9_24 : GF RX9 24 8 3 := ⟨RX9, TX9, 7, rfl, by decide, lay_X9, Or.inl (tsg_in (i := 1189) (by decide +kernel) rfl)⟩
theorem pf_X9_24 : PF RX9 24 8 3 (.array (.object "ShadowRegistryLaw$Tree")) := ⟨RX9, TX9, 7, tyX9, rfl, by decide, lay_X9, Or.inl (tsg_in (i := 1189) (by decide +kernel) rfl), tyX9_ok, nmX9, rfl, rfl⟩
theorem gf_L_102 : GF RL 102 8 3 := ⟨RX9, TX9, 7, rfl, by decide, lay_X9, Or.inl (tsg_in (i := 1190) (by decide +kernel) rfl)⟩
theorem pf_L_102 : PF RL 102 8 3 (.array (.object "ShadowRegistryLaw$Tree")) := ⟨RX9, TX9, 7, tyX9, rfl, by decide, lay_X9, Or.inl (tsg_in (i := 1190) (by decide +kernel) rfl), tyX9_ok, nmX9, rfl, rfl⟩
theorem gf_X9_27 : GF RX9 27 8 4 := ⟨RX9, TX9, 7, rfl, by decide, lay_X9, Or.inl (tsg_in (i := 1191) (by decide +kernel) rfl)⟩
theorem pf_X9_27 : PF RX9 27 8 4 (.array (.object "ShadowRegistryLaw$Tree")) := ⟨RX9, TX9, 7, tyX9, rfl, by decide, lay_X9, Or.inl (tsg_in (i := 1191) (by decide +kernel) rfl), tyX9_ok, nmX9, rfl, rfl⟩
theorem gf_L_105 : GF RL 105 8 4 := ⟨RX9, TX9, 7, rfl, by decide, lay_X9, Or.inl (tsg_in (i := 1192) (by decide +kernel) rfl)⟩
theorem pf_L_105 : PF RL 105 8 4 (.array (.object "ShadowRegistryLaw$Tree")) := ⟨RX9, TX9, 7, tyX9, rfl, by decide, lay_X9, Or.inl (tsg_in (i := 1192) (by decide +kernel) rfl), tyX9_ok, nmX9, rfl, rfl⟩
theorem gf_X10_16 : GF RX10 16 8 5 := ⟨RX9, TX9, 7, rfl, by decide, lay_X9, Or.inl (tsg_in (i := 1193) (by decide +kernel) rfl)⟩
theorem pf_X10_16 : PF RX10 16 8 5 .int := ⟨RX9, TX9, 7, tyX9, rfl, by decide, lay_X9, Or.inl (tsg_in (i := 1193) (by decide +kernel) rfl), tyX9_ok, nmX9, rfl, rfl⟩
theorem gf_X9_35 : GF RX9 35 8 5 := ⟨RX9, TX9, 7, rfl, by decide, lay_X9, Or.inl (tsg_in (i := 1194) (by decide +kernel) rfl)⟩
theorem pf_X9_35 : PF RX9 35 8 5 .int := ⟨RX9, TX9, 7, tyX9, rfl, by decide, lay_X9, Or.inl (tsg_in (i := 1194) (by decide +kernel) rfl), tyX9_ok, nmX9, rfl, rfl⟩
theorem gf_L_153 : GF RL 153 8 6 := ⟨RX9, TX9, 7, rfl, by decide, lay_X9, Or.inl (tsg_in (i := 1195) (by decide +kernel) rfl)⟩
theorem pf_L_153 : PF RL 153 8 6 .int := ⟨RX9, TX9, 7, tyX9, rfl, by decide, lay_X9, Or.inl (tsg_in (i := 1195) (by decide +kernel) rfl), tyX9_ok, nmX9, rfl, rfl⟩
theorem gf_X9_39 : GF RX9 39 8 6 := ⟨RX9, TX9, 7, rfl, by decide, lay_X9, Or.inl (tsg_in (i := 1196) (by decide +kernel) rfl)⟩
theorem pf_X9_39 : PF RX9 39 8 6 .int := ⟨RX9, TX9, 7, tyX9, rfl, by decide, lay_X9, Or.inl (tsg_in (i := 1196) (by decide +kernel) rfl), tyX9_ok, nmX9, rfl, rfl⟩
theorem gf_X10_7 : GF RX10 7 9 0 := ⟨RX10, TX10, 5, rfl, by decide, lay_X10, Or.inl (tsg_in (i := 1356) (by decide +kernel) rfl)⟩
theorem pf_X10_7 : PF RX10 7 9 0 .int := ⟨RX10, TX10, 5, tyX10, rfl, by decide, lay_X10, Or.inl (tsg_in (i := 1356) (by decide +kernel) rfl), tyX10_ok, nmX10, rfl, rfl⟩
theorem gf_L_41 : GF RL 41 9 0 := ⟨RX10, TX10, 5, rfl, by decide, lay_X10, Or.inl (tsg_in (i := 1357) (by decide +kernel) rfl)⟩
theorem pf_L_41 : PF RL 41 9 0 .int := ⟨RX10, TX10, 5, tyX10, rfl, by decide, lay_X10, Or.inl (tsg_in (i := 1357) (by decide +kernel) rfl), tyX10_ok, nmX10, rfl, rfl⟩
theorem gf_X10_13 : GF RX10 13 9 1 := ⟨RX10, TX10, 5, rfl, by decide, lay_X10, Or.inl (tsg_in (i := 1358) (by decide +kernel) rfl)⟩
theorem pf_X10_13 : PF RX10 13 9 1 .int := ⟨RX10, TX10, 5, tyX10, rfl, by decide, lay_X10, Or.inl (tsg_in (i := 1358) (by decide +kernel) rfl), tyX10_ok, nmX10, rfl, rfl⟩
theorem gf_L_46 : GF RL 46 9 1 := ⟨RX10, TX10, 5, rfl, by decide, lay_X10, Or.inl (tsg_in (i := 1359) (by decide +kernel) rfl)⟩
theorem pf_L_46 : PF RL 46 9 1 .int := ⟨RX10, TX10, 5, tyX10, rfl, by decide, lay_X10, Or.inl (tsg_in (i := 1359) (by decide +kernel) rfl), tyX10_ok, nmX10, rfl, rfl⟩
theorem gf_X10_44 : GF RX10 44 9 2 := ⟨RX10, TX10, 5, rfl, by decide, lay_X10, Or.inl (tsg_in (i := 1360) (by decide +kernel) rfl)⟩
theorem pf_X10_44 : PF RX10 44 9 2 .int := ⟨RX10, TX10, 5, tyX10, rfl, by decide, lay_X10, Or.inl (tsg_in (i := 1360) (by decide +kernel) rfl), tyX10_ok, nmX10, rfl, rfl⟩
theorem gf_L_60 : GF RL 60 9 2 := ⟨RX10, TX10, 5, rfl, by decide, lay_X10, Or.inl (tsg_in (i := 1361) (by decide +kernel) rfl)⟩
theorem pf_L_60 : PF RL 60 9 2 .int := ⟨RX10, TX10, 5, tyX10, rfl, by decide, lay_X10, Or.inl (tsg_in (i := 1361) (by decide +kernel) rfl), tyX10_ok, nmX10, rfl, rfl⟩
theorem gf_X10_36 : GF RX10 36 9 3 := ⟨RX10, TX10, 5, rfl, by decide, lay_X10, Or.inl (tsg_in (i := 1362) (by decide +kernel) rfl)⟩
theorem pf_X10_36 : PF RX10 36 9 3 (.object "ShadowRegistryLaw$Tree") := ⟨RX10, TX10, 5, tyX10, rfl, by decide, lay_X10, Or.inl (tsg_in (i := 1362) (by decide +kernel) rfl), tyX10_ok, nmX10, rfl, rfl⟩
theorem gf_L_53 : GF RL 53 9 3 := ⟨RX10, TX10, 5, rfl, by decide, lay_X10, Or.inl (tsg_in (i := 1363) (by decide +kernel) rfl)⟩
theorem pf_L_53 : PF RL 53 9 3 (.object "ShadowRegistryLaw$Tree") := ⟨RX10, TX10, 5, tyX10, rfl, by decide, lay_X10, Or.inl (tsg_in (i := 1363) (by decide +kernel) rfl), tyX10_ok, nmX10, rfl, rfl⟩
theorem gf_X10_51 : GF RX10 51 9 4 := ⟨RX10, TX10, 5, rfl, by decide, lay_X10, Or.inl (tsg_in (i := 1364) (by decide +kernel) rfl)⟩
theorem pf_X10_51 : PF RX10 51 9 4 (.object "ShadowRegistryLaw$Tree") := ⟨RX10, TX10, 5, tyX10, rfl, by decide, lay_X10, Or.inl (tsg_in (i := 1364) (by decide +kernel) rfl), tyX10_ok, nmX10, rfl, rfl⟩
theorem gf_L_57 : GF RL 57 9 4 := ⟨RX10, TX10, 5, rfl, by decide, lay_X10, Or.inl (tsg_in (i := 1365) (by decide +kernel) rfl)⟩
theorem pf_L_57 : PF RL 57 9 4 (.object "ShadowRegistryLaw$Tree") := ⟨RX10, TX10, 5, tyX10, rfl, by decide, lay_X10, Or.inl (tsg_in (i := 1365) (by decide +kernel) rfl), tyX10_ok, nmX10, rfl, rfl⟩
theorem gf_J5_15 : GF RJ5 15 11 0 := ⟨RJ4, TJ4, 4, rfl, by decide, lay_J4, Or.inl (tsg_in (i := 1419) (by decide +kernel) rfl)⟩
theorem pf_J5_15 : PF RJ5 15 11 0 (.array .byte) := ⟨RJ4, TJ4, 4, tyJ4, rfl, by decide, lay_J4, Or.inl (tsg_in (i := 1419) (by decide +kernel) rfl), tyJ4_ok, nmJ4, rfl, rfl⟩
theorem gf_J5_22 : GF RJ5 22 11 1 := ⟨RJ4, TJ4, 4, rfl, by decide, lay_J4, Or.inl (tsg_in (i := 1420) (by decide +kernel) rfl)⟩
theorem pf_J5_22 : PF RJ5 22 11 1 .byte := ⟨RJ4, TJ4, 4, tyJ4, rfl, by decide, lay_J4, Or.inl (tsg_in (i := 1420) (by decide +kernel) rfl), tyJ4_ok, nmJ4, rfl, rfl⟩
theorem gf_J0_1048 : GF RJ0 1048 11 2 := ⟨RJ4, TJ4, 4, rfl, by decide, lay_J4, Or.inl (tsg_in (i := 1421) (by decide +kernel) rfl)⟩
theorem pf_J0_1048 : PF RJ0 1048 11 2 .boolean := ⟨RJ4, TJ4, 4, tyJ4, rfl, by decide, lay_J4, Or.inl (tsg_in (i := 1421) (by decide +kernel) rfl), tyJ4_ok, nmJ4, rfl, rfl⟩
theorem gf_J5_79 : GF RJ5 79 11 3 := ⟨RJ4, TJ4, 4, rfl, by decide, lay_J4, Or.inl (tsg_in (i := 1422) (by decide +kernel) rfl)⟩
theorem pf_J5_79 : PF RJ5 79 11 3 .int := ⟨RJ4, TJ4, 4, tyJ4, rfl, by decide, lay_J4, Or.inl (tsg_in (i := 1422) (by decide +kernel) rfl), tyJ4_ok, nmJ4, rfl, rfl⟩
theorem gf_J0_9 : GF RJ0 9 10 0 := ⟨RJ0, TJ0, 4, rfl, by decide, lay_J0, Or.inl (tsg_in (i := 1479) (by decide +kernel) rfl)⟩
theorem pff_J0_9 : PFF RJ0 9 10 0 (.array .byte) := ⟨RJ0, TJ0, 4, tyJ0, rfl, by decide, rfl, rfl, lay_J0, tsg_in (i := 1479) (by decide +kernel) rfl, tyJ0_ok, nmJ0, rfl, rfl⟩
theorem gf_J0_15 : GF RJ0 15 10 1 := ⟨RJ0, TJ0, 4, rfl, by decide, lay_J0, Or.inl (tsg_in (i := 1480) (by decide +kernel) rfl)⟩
theorem pff_J0_15 : PFF RJ0 15 10 1 .byte := ⟨RJ0, TJ0, 4, tyJ0, rfl, by decide, rfl, rfl, lay_J0, tsg_in (i := 1480) (by decide +kernel) rfl, tyJ0_ok, nmJ0, rfl, rfl⟩
theorem kw_X7_83 : Cond.fieldLink RX7 83 RX1 "word" "J" ∈ TSg := tsg_in (i := 1536) (by decide +kernel) rfl
theorem yc_X8_init : YC yX8_init cX8_init 1 none 0 := ⟨tsg_in (i := 34) (by decide +kernel) rfl, tsg_in (i := 67) (by decide +kernel) rfl, by decide +kernel⟩
theorem yi_X8_init : YI yX8_init := ⟨tsg_in (i := 66) (by decide +kernel) rfl, rfl⟩
theorem yc_X6_init : YC yX6_init cX6_init 1 none 0 := ⟨tsg_in (i := 35) (by decide +kernel) rfl, tsg_in (i := 75) (by decide +kernel) rfl, by decide +kernel⟩
theorem yi_X6_init : YI yX6_init := ⟨tsg_in (i := 74) (by decide +kernel) rfl, rfl⟩
theorem yc_X0_init : YC yX0_init cX0_init 2 none 0 := ⟨tsg_in (i := 36) (by decide +kernel) rfl, tsg_in (i := 91) (by decide +kernel) rfl, by decide +kernel⟩
theorem yi_X0_init : YI yX0_init := ⟨tsg_in (i := 90) (by decide +kernel) rfl, rfl⟩
theorem yc_X2_init : YC yX2_init cX2_init 1 none 0 := ⟨tsg_in (i := 37) (by decide +kernel) rfl, tsg_in (i := 98) (by decide +kernel) rfl, by decide +kernel⟩
theorem yi_X2_init : YI yX2_init := ⟨tsg_in (i := 97) (by decide +kernel) rfl, rfl⟩
theorem yc_X7_init : YC yX7_init cX7_init 2 none 1 := ⟨tsg_in (i := 39) (by decide +kernel) rfl, tsg_in (i := 181) (by decide +kernel) rfl, by decide +kernel⟩
theorem yi_X7_init : YI yX7_init := ⟨tsg_in (i := 180) (by decide +kernel) rfl, rfl⟩
theorem yc_X3_init : YC yX3_init cX3_init 3 none 2 := ⟨tsg_in (i := 38) (by decide +kernel) rfl, tsg_in (i := 203) (by decide +kernel) rfl, by decide +kernel⟩
theorem yi_X3_init : YI yX3_init := ⟨tsg_in (i := 202) (by decide +kernel) rfl, rfl⟩
theorem yc_X4_init : YC yX4_init cX4_init 2 none 1 := ⟨tsg_in (i := 42) (by decide +kernel) rfl, tsg_in (i := 242) (by decide +kernel) rfl, by decide +kernel⟩
theorem yi_X4_init : YI yX4_init := ⟨tsg_in (i := 241) (by decide +kernel) rfl, rfl⟩
theorem yc_X5_init : YC yX5_init cX5_init 1 none 0 := ⟨tsg_in (i := 43) (by decide +kernel) rfl, tsg_in (i := 258) (by decide +kernel) rfl, by decide +kernel⟩
theorem yi_X5_init : YI yX5_init := ⟨tsg_in (i := 257) (by decide +kernel) rfl, rfl⟩
theorem yc_X8_houses : YC yX8_houses cX8_houses 1 (some .int) 0 := ⟨tsg_in (i := 34) (by decide +kernel) rfl, tsg_in (i := 328) (by decide +kernel) rfl, by decide +kernel⟩
theorem yv_X8_houses : YV yX8_houses := ⟨tsg_in (i := 326) (by decide +kernel) rfl, tsg_in (i := 327) (by decide +kernel) rfl⟩
theorem yc_X8_allHoursLost : YC yX8_allHoursLost cX8_allHoursLost 1 (some .int) 0 := ⟨tsg_in (i := 34) (by decide +kernel) rfl, tsg_in (i := 332) (by decide +kernel) rfl, by decide +kernel⟩
theorem yv_X8_allHoursLost : YV yX8_allHoursLost := ⟨tsg_in (i := 330) (by decide +kernel) rfl, tsg_in (i := 331) (by decide +kernel) rfl⟩
theorem yc_X8_lightHouses : YC yX8_lightHouses cX8_lightHouses 3 (some .int) 0 := ⟨tsg_in (i := 34) (by decide +kernel) rfl, tsg_in (i := 336) (by decide +kernel) rfl, by decide +kernel⟩
theorem yv_X8_lightHouses : YV yX8_lightHouses := ⟨tsg_in (i := 334) (by decide +kernel) rfl, tsg_in (i := 335) (by decide +kernel) rfl⟩
theorem yc_X5_lost : YC yX5_lost cX5_lost 2 (some .int) 1 := ⟨tsg_in (i := 43) (by decide +kernel) rfl, tsg_in (i := 340) (by decide +kernel) rfl, by decide +kernel⟩
theorem yv_X5_lost : YV yX5_lost := ⟨tsg_in (i := 338) (by decide +kernel) rfl, tsg_in (i := 339) (by decide +kernel) rfl⟩
theorem yc_X5_hoursDark : YC yX5_hoursDark cX5_hoursDark 2 (some .int) 1 := ⟨tsg_in (i := 43) (by decide +kernel) rfl, tsg_in (i := 344) (by decide +kernel) rfl, by decide +kernel⟩
theorem yv_X5_hoursDark : YV yX5_hoursDark := ⟨tsg_in (i := 342) (by decide +kernel) rfl, tsg_in (i := 343) (by decide +kernel) rfl⟩
theorem yc_X5_has : YC yX5_has cX5_has 2 (some .boolean) 1 := ⟨tsg_in (i := 43) (by decide +kernel) rfl, tsg_in (i := 348) (by decide +kernel) rfl, by decide +kernel⟩
theorem yv_X5_has : YV yX5_has := ⟨tsg_in (i := 346) (by decide +kernel) rfl, tsg_in (i := 347) (by decide +kernel) rfl⟩
theorem yc_J6_bitCount_0f7a4 : YC yJ6_bitCount_0f7a4 cJ6_bitCount_0f7a4 1 (some .int) 1 := ⟨tsg_in (i := 55) (by decide +kernel) rfl, tsg_in (i := 351) (by decide +kernel) rfl, by decide +kernel⟩
theorem ys_J6_bitCount_0f7a4 : YS yJ6_bitCount_0f7a4 := tsg_in (i := 350) (by decide +kernel) rfl
theorem yc_X8_worstHouse : YC yX8_worstHouse cX8_worstHouse 3 (some .int) 0 := ⟨tsg_in (i := 34) (by decide +kernel) rfl, tsg_in (i := 358) (by decide +kernel) rfl, by decide +kernel⟩
theorem yv_X8_worstHouse : YV yX8_worstHouse := ⟨tsg_in (i := 356) (by decide +kernel) rfl, tsg_in (i := 357) (by decide +kernel) rfl⟩
theorem yc_X8_darkestWall : YC yX8_darkestWall cX8_darkestWall 3 (some .int) 0 := ⟨tsg_in (i := 34) (by decide +kernel) rfl, tsg_in (i := 429) (by decide +kernel) rfl, by decide +kernel⟩
theorem yv_X8_darkestWall : YV yX8_darkestWall := ⟨tsg_in (i := 427) (by decide +kernel) rfl, tsg_in (i := 428) (by decide +kernel) rfl⟩
theorem yc_X5_cast : YC yX5_cast cX5_cast 2 (some .int) 1 := ⟨tsg_in (i := 43) (by decide +kernel) rfl, tsg_in (i := 433) (by decide +kernel) rfl, by decide +kernel⟩
theorem yv_X5_cast : YV yX5_cast := ⟨tsg_in (i := 431) (by decide +kernel) rfl, tsg_in (i := 432) (by decide +kernel) rfl⟩
theorem yc_X8_placeOf : YC yX8_placeOf cX8_placeOf 2 (some .int) 1 := ⟨tsg_in (i := 34) (by decide +kernel) rfl, tsg_in (i := 437) (by decide +kernel) rfl, by decide +kernel⟩
theorem yv_X8_placeOf : YV yX8_placeOf := ⟨tsg_in (i := 435) (by decide +kernel) rfl, tsg_in (i := 436) (by decide +kernel) rfl⟩
theorem yc_X8_checkHouse : YC yX8_checkHouse cX8_checkHouse 2 none 1 := ⟨tsg_in (i := 34) (by decide +kernel) rfl, tsg_in (i := 441) (by decide +kernel) rfl, by decide +kernel⟩
theorem yv_X8_checkHouse : YV yX8_checkHouse := ⟨tsg_in (i := 440) (by decide +kernel) rfl, tsg_in (i := 1) (by decide +kernel) rfl⟩
theorem yc_X5_place : YC yX5_place cX5_place 2 (some .int) 1 := ⟨tsg_in (i := 43) (by decide +kernel) rfl, tsg_in (i := 462) (by decide +kernel) rfl, by decide +kernel⟩
theorem yv_X5_place : YV yX5_place := ⟨tsg_in (i := 460) (by decide +kernel) rfl, tsg_in (i := 461) (by decide +kernel) rfl⟩
theorem yc_X8_heightOf : YC yX8_heightOf cX8_heightOf 2 (some .int) 1 := ⟨tsg_in (i := 34) (by decide +kernel) rfl, tsg_in (i := 466) (by decide +kernel) rfl, by decide +kernel⟩
theorem yv_X8_heightOf : YV yX8_heightOf := ⟨tsg_in (i := 464) (by decide +kernel) rfl, tsg_in (i := 465) (by decide +kernel) rfl⟩
theorem yc_X5_height : YC yX5_height cX5_height 2 (some .int) 1 := ⟨tsg_in (i := 43) (by decide +kernel) rfl, tsg_in (i := 470) (by decide +kernel) rfl, by decide +kernel⟩
theorem yv_X5_height : YV yX5_height := ⟨tsg_in (i := 468) (by decide +kernel) rfl, tsg_in (i := 469) (by decide +kernel) rfl⟩
theorem yc_X8_hoursLost : YC yX8_hoursLost cX8_hoursLost 2 (some .int) 1 := ⟨tsg_in (i := 34) (by decide +kernel) rfl, tsg_in (i := 474) (by decide +kernel) rfl, by decide +kernel⟩
theorem yv_X8_hoursLost : YV yX8_hoursLost := ⟨tsg_in (i := 472) (by decide +kernel) rfl, tsg_in (i := 473) (by decide +kernel) rfl⟩
theorem yc_X8_castBy : YC yX8_castBy cX8_castBy 2 (some .int) 1 := ⟨tsg_in (i := 34) (by decide +kernel) rfl, tsg_in (i := 478) (by decide +kernel) rfl, by decide +kernel⟩
theorem yv_X8_castBy : YV yX8_castBy := ⟨tsg_in (i := 476) (by decide +kernel) rfl, tsg_in (i := 477) (by decide +kernel) rfl⟩
theorem yc_X8_hasCurfew : YC yX8_hasCurfew cX8_hasCurfew 2 (some .boolean) 1 := ⟨tsg_in (i := 34) (by decide +kernel) rfl, tsg_in (i := 482) (by decide +kernel) rfl, by decide +kernel⟩
theorem yv_X8_hasCurfew : YV yX8_hasCurfew := ⟨tsg_in (i := 480) (by decide +kernel) rfl, tsg_in (i := 481) (by decide +kernel) rfl⟩
theorem yc_X5_firstLow : YC yX5_firstLow cX5_firstLow 2 (some .int) 1 := ⟨tsg_in (i := 43) (by decide +kernel) rfl, tsg_in (i := 486) (by decide +kernel) rfl, by decide +kernel⟩
theorem yv_X5_firstLow : YV yX5_firstLow := ⟨tsg_in (i := 484) (by decide +kernel) rfl, tsg_in (i := 485) (by decide +kernel) rfl⟩
theorem yc_X8_curfewFrom : YC yX8_curfewFrom cX8_curfewFrom 2 (some .int) 1 := ⟨tsg_in (i := 34) (by decide +kernel) rfl, tsg_in (i := 490) (by decide +kernel) rfl, by decide +kernel⟩
theorem yv_X8_curfewFrom : YV yX8_curfewFrom := ⟨tsg_in (i := 488) (by decide +kernel) rfl, tsg_in (i := 489) (by decide +kernel) rfl⟩
theorem yc_X8_checkCurfew : YC yX8_checkCurfew cX8_checkCurfew 2 none 1 := ⟨tsg_in (i := 34) (by decide +kernel) rfl, tsg_in (i := 494) (by decide +kernel) rfl, by decide +kernel⟩
theorem yv_X8_checkCurfew : YV yX8_checkCurfew := ⟨tsg_in (i := 493) (by decide +kernel) rfl, tsg_in (i := 2) (by decide +kernel) rfl⟩
theorem yc_X8_curfewTo : YC yX8_curfewTo cX8_curfewTo 2 (some .int) 1 := ⟨tsg_in (i := 34) (by decide +kernel) rfl, tsg_in (i := 499) (by decide +kernel) rfl, by decide +kernel⟩
theorem yv_X8_curfewTo : YV yX8_curfewTo := ⟨tsg_in (i := 497) (by decide +kernel) rfl, tsg_in (i := 498) (by decide +kernel) rfl⟩
theorem yc_X5_lastLow : YC yX5_lastLow cX5_lastLow 2 (some .int) 1 := ⟨tsg_in (i := 43) (by decide +kernel) rfl, tsg_in (i := 503) (by decide +kernel) rfl, by decide +kernel⟩
theorem yv_X5_lastLow : YV yX5_lastLow := ⟨tsg_in (i := 501) (by decide +kernel) rfl, tsg_in (i := 502) (by decide +kernel) rfl⟩
theorem yc_X8_hoursLostTo : YC yX8_hoursLostTo cX8_hoursLostTo 3 (some .int) 2 := ⟨tsg_in (i := 34) (by decide +kernel) rfl, tsg_in (i := 507) (by decide +kernel) rfl, by decide +kernel⟩
theorem yv_X8_hoursLostTo : YV yX8_hoursLostTo := ⟨tsg_in (i := 505) (by decide +kernel) rfl, tsg_in (i := 506) (by decide +kernel) rfl⟩
theorem yc_X5_hoursShaded : YC yX5_hoursShaded cX5_hoursShaded 3 (some .int) 2 := ⟨tsg_in (i := 43) (by decide +kernel) rfl, tsg_in (i := 511) (by decide +kernel) rfl, by decide +kernel⟩
theorem yv_X5_hoursShaded : YV yX5_hoursShaded := ⟨tsg_in (i := 509) (by decide +kernel) rfl, tsg_in (i := 510) (by decide +kernel) rfl⟩
theorem yc_X8_heightAt : YC yX8_heightAt cX8_heightAt 3 (some .int) 2 := ⟨tsg_in (i := 34) (by decide +kernel) rfl, tsg_in (i := 516) (by decide +kernel) rfl, by decide +kernel⟩
theorem yv_X8_heightAt : YV yX8_heightAt := ⟨tsg_in (i := 514) (by decide +kernel) rfl, tsg_in (i := 515) (by decide +kernel) rfl⟩
theorem yc_X8_checkHour : YC yX8_checkHour cX8_checkHour 1 none 1 := ⟨tsg_in (i := 34) (by decide +kernel) rfl, tsg_in (i := 519) (by decide +kernel) rfl, by decide +kernel⟩
theorem ys_X8_checkHour : YS yX8_checkHour := tsg_in (i := 518) (by decide +kernel) rfl
theorem yc_X5_wallAt : YC yX5_wallAt cX5_wallAt 3 (some .int) 2 := ⟨tsg_in (i := 43) (by decide +kernel) rfl, tsg_in (i := 524) (by decide +kernel) rfl, by decide +kernel⟩
theorem yv_X5_wallAt : YV yX5_wallAt := ⟨tsg_in (i := 522) (by decide +kernel) rfl, tsg_in (i := 523) (by decide +kernel) rfl⟩
theorem yc_X8_shadowOf : YC yX8_shadowOf cX8_shadowOf 3 (some .int) 2 := ⟨tsg_in (i := 34) (by decide +kernel) rfl, tsg_in (i := 528) (by decide +kernel) rfl, by decide +kernel⟩
theorem yv_X8_shadowOf : YV yX8_shadowOf := ⟨tsg_in (i := 526) (by decide +kernel) rfl, tsg_in (i := 527) (by decide +kernel) rfl⟩
theorem yc_X5_reach : YC yX5_reach cX5_reach 4 (some .int) 2 := ⟨tsg_in (i := 43) (by decide +kernel) rfl, tsg_in (i := 532) (by decide +kernel) rfl, by decide +kernel⟩
theorem yv_X5_reach : YV yX5_reach := ⟨tsg_in (i := 530) (by decide +kernel) rfl, tsg_in (i := 531) (by decide +kernel) rfl⟩
theorem yc_J9_abs_0f7a4 : YC yJ9_abs_0f7a4 cJ9_abs_0f7a4 1 (some .int) 1 := ⟨tsg_in (i := 50) (by decide +kernel) rfl, tsg_in (i := 535) (by decide +kernel) rfl, by decide +kernel⟩
theorem ys_J9_abs_0f7a4 : YS yJ9_abs_0f7a4 := tsg_in (i := 534) (by decide +kernel) rfl
theorem yc_X8_shades : YC yX8_shades cX8_shades 4 (some .boolean) 3 := ⟨tsg_in (i := 34) (by decide +kernel) rfl, tsg_in (i := 540) (by decide +kernel) rfl, by decide +kernel⟩
theorem yv_X8_shades : YV yX8_shades := ⟨tsg_in (i := 538) (by decide +kernel) rfl, tsg_in (i := 539) (by decide +kernel) rfl⟩
theorem yc_X8_holdsHour : YC yX8_holdsHour cX8_holdsHour 2 (some .boolean) 2 := ⟨tsg_in (i := 34) (by decide +kernel) rfl, tsg_in (i := 543) (by decide +kernel) rfl, by decide +kernel⟩
theorem ys_X8_holdsHour : YS yX8_holdsHour := tsg_in (i := 542) (by decide +kernel) rfl
theorem yc_X8_isInTheDark : YC yX8_isInTheDark cX8_isInTheDark 3 (some .boolean) 2 := ⟨tsg_in (i := 34) (by decide +kernel) rfl, tsg_in (i := 547) (by decide +kernel) rfl, by decide +kernel⟩
theorem yv_X8_isInTheDark : YV yX8_isInTheDark := ⟨tsg_in (i := 545) (by decide +kernel) rfl, tsg_in (i := 546) (by decide +kernel) rfl⟩
theorem yc_X8_shadedBy : YC yX8_shadedBy cX8_shadedBy 7 (some .int) 2 := ⟨tsg_in (i := 34) (by decide +kernel) rfl, tsg_in (i := 552) (by decide +kernel) rfl, by decide +kernel⟩
theorem yv_X8_shadedBy : YV yX8_shadedBy := ⟨tsg_in (i := 550) (by decide +kernel) rfl, tsg_in (i := 551) (by decide +kernel) rfl⟩
theorem yc_X8_housesInTheDark : YC yX8_housesInTheDark cX8_housesInTheDark 2 (some .int) 1 := ⟨tsg_in (i := 34) (by decide +kernel) rfl, tsg_in (i := 558) (by decide +kernel) rfl, by decide +kernel⟩
theorem yv_X8_housesInTheDark : YV yX8_housesInTheDark := ⟨tsg_in (i := 556) (by decide +kernel) rfl, tsg_in (i := 557) (by decide +kernel) rfl⟩
theorem yc_X8_countDark : YC yX8_countDark cX8_countDark 4 (some .int) 1 := ⟨tsg_in (i := 34) (by decide +kernel) rfl, tsg_in (i := 562) (by decide +kernel) rfl, by decide +kernel⟩
theorem yv_X8_countDark : YV yX8_countDark := ⟨tsg_in (i := 561) (by decide +kernel) rfl, tsg_in (i := 3) (by decide +kernel) rfl⟩
theorem yc_X8_setCurfew : YC yX8_setCurfew cX8_setCurfew 4 (some .int) 3 := ⟨tsg_in (i := 34) (by decide +kernel) rfl, tsg_in (i := 566) (by decide +kernel) rfl, by decide +kernel⟩
theorem yv_X8_setCurfew : YV yX8_setCurfew := ⟨tsg_in (i := 564) (by decide +kernel) rfl, tsg_in (i := 565) (by decide +kernel) rfl⟩
theorem yc_X5_giveCurfew : YC yX5_giveCurfew cX5_giveCurfew 4 (some .boolean) 3 := ⟨tsg_in (i := 43) (by decide +kernel) rfl, tsg_in (i := 586) (by decide +kernel) rfl, by decide +kernel⟩
theorem yv_X5_giveCurfew : YV yX5_giveCurfew := ⟨tsg_in (i := 584) (by decide +kernel) rfl, tsg_in (i := 585) (by decide +kernel) rfl⟩
theorem yc_X5_renew : YC yX5_renew cX5_renew 3 none 1 := ⟨tsg_in (i := 43) (by decide +kernel) rfl, tsg_in (i := 590) (by decide +kernel) rfl, by decide +kernel⟩
theorem yv_X5_renew : YV yX5_renew := ⟨tsg_in (i := 589) (by decide +kernel) rfl, tsg_in (i := 4) (by decide +kernel) rfl⟩
theorem yc_X5_findHoursShaded : YC yX5_findHoursShaded cX5_findHoursShaded 9 (some .int) 2 := ⟨tsg_in (i := 43) (by decide +kernel) rfl, tsg_in (i := 594) (by decide +kernel) rfl, by decide +kernel⟩
theorem yv_X5_findHoursShaded : YV yX5_findHoursShaded := ⟨tsg_in (i := 593) (by decide +kernel) rfl, tsg_in (i := 5) (by decide +kernel) rfl⟩
theorem yc_X5_addUp : YC yX5_addUp cX5_addUp 5 none 0 := ⟨tsg_in (i := 43) (by decide +kernel) rfl, tsg_in (i := 599) (by decide +kernel) rfl, by decide +kernel⟩
theorem yv_X5_addUp : YV yX5_addUp := ⟨tsg_in (i := 598) (by decide +kernel) rfl, tsg_in (i := 6) (by decide +kernel) rfl⟩
theorem yc_X8_endCurfew : YC yX8_endCurfew cX8_endCurfew 2 (some .int) 1 := ⟨tsg_in (i := 34) (by decide +kernel) rfl, tsg_in (i := 604) (by decide +kernel) rfl, by decide +kernel⟩
theorem yv_X8_endCurfew : YV yX8_endCurfew := ⟨tsg_in (i := 602) (by decide +kernel) rfl, tsg_in (i := 603) (by decide +kernel) rfl⟩
theorem yc_X8_build : YC yX8_build cX8_build 4 (some .int) 2 := ⟨tsg_in (i := 34) (by decide +kernel) rfl, tsg_in (i := 608) (by decide +kernel) rfl, by decide +kernel⟩
theorem yv_X8_build : YV yX8_build := ⟨tsg_in (i := 606) (by decide +kernel) rfl, tsg_in (i := 607) (by decide +kernel) rfl⟩
theorem yc_X5_giveHeight : YC yX5_giveHeight cX5_giveHeight 3 (some .boolean) 2 := ⟨tsg_in (i := 43) (by decide +kernel) rfl, tsg_in (i := 613) (by decide +kernel) rfl, by decide +kernel⟩
theorem yv_X5_giveHeight : YV yX5_giveHeight := ⟨tsg_in (i := 611) (by decide +kernel) rfl, tsg_in (i := 612) (by decide +kernel) rfl⟩
theorem yc_X8_passDays : YC yX8_passDays cX8_passDays 4 (some .int) 1 := ⟨tsg_in (i := 34) (by decide +kernel) rfl, tsg_in (i := 617) (by decide +kernel) rfl, by decide +kernel⟩
theorem yv_X8_passDays : YV yX8_passDays := ⟨tsg_in (i := 615) (by decide +kernel) rfl, tsg_in (i := 616) (by decide +kernel) rfl⟩
theorem yc_X8_checkDays : YC yX8_checkDays cX8_checkDays 1 none 1 := ⟨tsg_in (i := 34) (by decide +kernel) rfl, tsg_in (i := 620) (by decide +kernel) rfl, by decide +kernel⟩
theorem ys_X8_checkDays : YS yX8_checkDays := tsg_in (i := 619) (by decide +kernel) rfl
theorem yc_X4_passDay : YC yX4_passDay cX4_passDay 4 none 1 := ⟨tsg_in (i := 42) (by decide +kernel) rfl, tsg_in (i := 625) (by decide +kernel) rfl, by decide +kernel⟩
theorem yv_X4_passDay : YV yX4_passDay := ⟨tsg_in (i := 623) (by decide +kernel) rfl, tsg_in (i := 624) (by decide +kernel) rfl⟩
theorem yc_X0_lawAt : YC yX0_lawAt cX0_lawAt 2 (some (.object "ShadowRegistry$Law")) 1 := ⟨tsg_in (i := 36) (by decide +kernel) rfl, tsg_in (i := 629) (by decide +kernel) rfl, by decide +kernel⟩
theorem yv_X0_lawAt : YV yX0_lawAt := ⟨tsg_in (i := 627) (by decide +kernel) rfl, tsg_in (i := 628) (by decide +kernel) rfl⟩
theorem yc_X4_carryOut : YC yX4_carryOut cX4_carryOut 6 (some .boolean) 2 := ⟨tsg_in (i := 42) (by decide +kernel) rfl, tsg_in (i := 633) (by decide +kernel) rfl, by decide +kernel⟩
theorem yv_X4_carryOut : YV yX4_carryOut := ⟨tsg_in (i := 632) (by decide +kernel) rfl, tsg_in (i := 7) (by decide +kernel) rfl⟩
theorem yc_X4_reckon : YC yX4_reckon cX4_reckon 8 (some .int) 3 := ⟨tsg_in (i := 42) (by decide +kernel) rfl, tsg_in (i := 637) (by decide +kernel) rfl, by decide +kernel⟩
theorem yv_X4_reckon : YV yX4_reckon := ⟨tsg_in (i := 636) (by decide +kernel) rfl, tsg_in (i := 8) (by decide +kernel) rfl⟩
theorem yc_J9_max_7cf53 : YC yJ9_max_7cf53 cJ9_max_7cf53 2 (some .int) 2 := ⟨tsg_in (i := 50) (by decide +kernel) rfl, tsg_in (i := 640) (by decide +kernel) rfl, by decide +kernel⟩
theorem ys_J9_max_7cf53 : YS yJ9_max_7cf53 := tsg_in (i := 639) (by decide +kernel) rfl
theorem yc_X4_leaf : YC yX4_leaf cX4_leaf 4 (some .int) 4 := ⟨tsg_in (i := 42) (by decide +kernel) rfl, tsg_in (i := 643) (by decide +kernel) rfl, by decide +kernel⟩
theorem ys_X4_leaf : YS yX4_leaf := tsg_in (i := 642) (by decide +kernel) rfl
theorem yc_X5_mostLost : YC yX5_mostLost cX5_mostLost 3 (some .int) 0 := ⟨tsg_in (i := 43) (by decide +kernel) rfl, tsg_in (i := 647) (by decide +kernel) rfl, by decide +kernel⟩
theorem yv_X5_mostLost : YV yX5_mostLost := ⟨tsg_in (i := 645) (by decide +kernel) rfl, tsg_in (i := 646) (by decide +kernel) rfl⟩
theorem yc_X4_truth : YC yX4_truth cX4_truth 1 (some .int) 1 := ⟨tsg_in (i := 42) (by decide +kernel) rfl, tsg_in (i := 655) (by decide +kernel) rfl, by decide +kernel⟩
theorem ys_X4_truth : YS yX4_truth := tsg_in (i := 654) (by decide +kernel) rfl
theorem yc_X4_push : YC yX4_push cX4_push 2 none 1 := ⟨tsg_in (i := 42) (by decide +kernel) rfl, tsg_in (i := 659) (by decide +kernel) rfl, by decide +kernel⟩
theorem yv_X4_push : YV yX4_push := ⟨tsg_in (i := 658) (by decide +kernel) rfl, tsg_in (i := 9) (by decide +kernel) rfl⟩
theorem yc_X4_pop : YC yX4_pop cX4_pop 1 (some .int) 0 := ⟨tsg_in (i := 42) (by decide +kernel) rfl, tsg_in (i := 663) (by decide +kernel) rfl, by decide +kernel⟩
theorem yv_X4_pop : YV yX4_pop := ⟨tsg_in (i := 662) (by decide +kernel) rfl, tsg_in (i := 10) (by decide +kernel) rfl⟩
theorem yc_X4_sumOf : YC yX4_sumOf cX4_sumOf 3 (some .int) 3 := ⟨tsg_in (i := 42) (by decide +kernel) rfl, tsg_in (i := 666) (by decide +kernel) rfl, by decide +kernel⟩
theorem ys_X4_sumOf : YS yX4_sumOf := tsg_in (i := 665) (by decide +kernel) rfl
theorem yc_J9_min_7cf53 : YC yJ9_min_7cf53 cJ9_min_7cf53 2 (some .int) 2 := ⟨tsg_in (i := 50) (by decide +kernel) rfl, tsg_in (i := 669) (by decide +kernel) rfl, by decide +kernel⟩
theorem ys_J9_min_7cf53 : YS yJ9_min_7cf53 := tsg_in (i := 668) (by decide +kernel) rfl
theorem yc_X4_testOf : YC yX4_testOf cX4_testOf 3 (some .boolean) 3 := ⟨tsg_in (i := 42) (by decide +kernel) rfl, tsg_in (i := 672) (by decide +kernel) rfl, by decide +kernel⟩
theorem ys_X4_testOf : YS yX4_testOf := tsg_in (i := 671) (by decide +kernel) rfl
theorem yc_X8_held : YC yX8_held cX8_held 4 (some .int) 3 := ⟨tsg_in (i := 34) (by decide +kernel) rfl, tsg_in (i := 676) (by decide +kernel) rfl, by decide +kernel⟩
theorem ys_X8_held : YS yX8_held := tsg_in (i := 675) (by decide +kernel) rfl
theorem yc_J9_min_f86c9 : YC yJ9_min_f86c9 cJ9_min_f86c9 4 (some .long) 2 := ⟨tsg_in (i := 50) (by decide +kernel) rfl, tsg_in (i := 679) (by decide +kernel) rfl, by decide +kernel⟩
theorem ys_J9_min_f86c9 : YS yJ9_min_f86c9 := tsg_in (i := 678) (by decide +kernel) rfl
theorem yc_J9_max_f86c9 : YC yJ9_max_f86c9 cJ9_max_f86c9 4 (some .long) 2 := ⟨tsg_in (i := 50) (by decide +kernel) rfl, tsg_in (i := 682) (by decide +kernel) rfl, by decide +kernel⟩
theorem ys_J9_max_f86c9 : YS yJ9_max_f86c9 := tsg_in (i := 681) (by decide +kernel) rfl
theorem yc_X8_lostAfter : YC yX8_lostAfter cX8_lostAfter 3 (some .int) 1 := ⟨tsg_in (i := 34) (by decide +kernel) rfl, tsg_in (i := 687) (by decide +kernel) rfl, by decide +kernel⟩
theorem yv_X8_lostAfter : YV yX8_lostAfter := ⟨tsg_in (i := 685) (by decide +kernel) rfl, tsg_in (i := 686) (by decide +kernel) rfl⟩
theorem yc_X5_become : YC yX5_become cX5_become 2 none 1 := ⟨tsg_in (i := 43) (by decide +kernel) rfl, tsg_in (i := 691) (by decide +kernel) rfl, by decide +kernel⟩
theorem yv_X5_become : YV yX5_become := ⟨tsg_in (i := 689) (by decide +kernel) rfl, tsg_in (i := 690) (by decide +kernel) rfl⟩
theorem yc_X8_daysUntilLight : YC yX8_daysUntilLight cX8_daysUntilLight 2 (some .int) 0 := ⟨tsg_in (i := 34) (by decide +kernel) rfl, tsg_in (i := 698) (by decide +kernel) rfl, by decide +kernel⟩
theorem yv_X8_daysUntilLight : YV yX8_daysUntilLight := ⟨tsg_in (i := 696) (by decide +kernel) rfl, tsg_in (i := 697) (by decide +kernel) rfl⟩
theorem yc_X8_fairCurfew : YC yX8_fairCurfew cX8_fairCurfew 6 (some .int) 2 := ⟨tsg_in (i := 34) (by decide +kernel) rfl, tsg_in (i := 702) (by decide +kernel) rfl, by decide +kernel⟩
theorem yv_X8_fairCurfew : YV yX8_fairCurfew := ⟨tsg_in (i := 700) (by decide +kernel) rfl, tsg_in (i := 701) (by decide +kernel) rfl⟩
theorem yc_X8_checkCurfewHours : YC yX8_checkCurfewHours cX8_checkCurfewHours 1 none 1 := ⟨tsg_in (i := 34) (by decide +kernel) rfl, tsg_in (i := 705) (by decide +kernel) rfl, by decide +kernel⟩
theorem ys_X8_checkCurfewHours : YS yX8_checkCurfewHours := tsg_in (i := 704) (by decide +kernel) rfl
theorem yc_X8_fairestWall : YC yX8_fairestWall cX8_fairestWall 6 (some .int) 1 := ⟨tsg_in (i := 34) (by decide +kernel) rfl, tsg_in (i := 710) (by decide +kernel) rfl, by decide +kernel⟩
theorem yv_X8_fairestWall : YV yX8_fairestWall := ⟨tsg_in (i := 708) (by decide +kernel) rfl, tsg_in (i := 709) (by decide +kernel) rfl⟩
theorem yc_X8_digest : YC yX8_digest cX8_digest 5 (some .long) 0 := ⟨tsg_in (i := 34) (by decide +kernel) rfl, tsg_in (i := 714) (by decide +kernel) rfl, by decide +kernel⟩
theorem yv_X8_digest : YV yX8_digest := ⟨tsg_in (i := 712) (by decide +kernel) rfl, tsg_in (i := 713) (by decide +kernel) rfl⟩
theorem yc_X8_laws : YC yX8_laws cX8_laws 1 (some .int) 0 := ⟨tsg_in (i := 34) (by decide +kernel) rfl, tsg_in (i := 721) (by decide +kernel) rfl, by decide +kernel⟩
theorem yv_X8_laws : YV yX8_laws := ⟨tsg_in (i := 719) (by decide +kernel) rfl, tsg_in (i := 720) (by decide +kernel) rfl⟩
theorem yc_X8_days : YC yX8_days cX8_days 1 (some .int) 0 := ⟨tsg_in (i := 34) (by decide +kernel) rfl, tsg_in (i := 725) (by decide +kernel) rfl, by decide +kernel⟩
theorem yv_X8_days : YV yX8_days := ⟨tsg_in (i := 723) (by decide +kernel) rfl, tsg_in (i := 724) (by decide +kernel) rfl⟩
theorem yc_X8_lawsCarriedOut : YC yX8_lawsCarriedOut cX8_lawsCarriedOut 1 (some .int) 0 := ⟨tsg_in (i := 34) (by decide +kernel) rfl, tsg_in (i := 729) (by decide +kernel) rfl, by decide +kernel⟩
theorem yv_X8_lawsCarriedOut : YV yX8_lawsCarriedOut := ⟨tsg_in (i := 727) (by decide +kernel) rfl, tsg_in (i := 728) (by decide +kernel) rfl⟩
theorem yc_X9_pass : YC yX9_pass cX9_pass 6 none 0 := ⟨tsg_in (i := 48) (by decide +kernel) rfl, tsg_in (i := 735) (by decide +kernel) rfl, by decide +kernel⟩
theorem yv_X9_pass : YV yX9_pass := ⟨tsg_in (i := 733) (by decide +kernel) rfl, tsg_in (i := 734) (by decide +kernel) rfl⟩
theorem yc_X10_of : YC yX10_of cX10_of 2 (some .int) 1 := ⟨tsg_in (i := 56) (by decide +kernel) rfl, tsg_in (i := 739) (by decide +kernel) rfl, by decide +kernel⟩
theorem yv_X10_of : YV yX10_of := ⟨tsg_in (i := 737) (by decide +kernel) rfl, tsg_in (i := 738) (by decide +kernel) rfl⟩
theorem yc_X9_worst : YC yX9_worst cX9_worst 3 (some .int) 0 := ⟨tsg_in (i := 48) (by decide +kernel) rfl, tsg_in (i := 743) (by decide +kernel) rfl, by decide +kernel⟩
theorem yv_X9_worst : YV yX9_worst := ⟨tsg_in (i := 741) (by decide +kernel) rfl, tsg_in (i := 742) (by decide +kernel) rfl⟩
theorem yc_X9_lost : YC yX9_lost cX9_lost 4 (some .int) 1 := ⟨tsg_in (i := 48) (by decide +kernel) rfl, tsg_in (i := 747) (by decide +kernel) rfl, by decide +kernel⟩
theorem yv_X9_lost : YV yX9_lost := ⟨tsg_in (i := 745) (by decide +kernel) rfl, tsg_in (i := 746) (by decide +kernel) rfl⟩
theorem yc_X9_shadedBy : YC yX9_shadedBy cX9_shadedBy 7 (some .int) 2 := ⟨tsg_in (i := 48) (by decide +kernel) rfl, tsg_in (i := 751) (by decide +kernel) rfl, by decide +kernel⟩
theorem yv_X9_shadedBy : YV yX9_shadedBy := ⟨tsg_in (i := 749) (by decide +kernel) rfl, tsg_in (i := 750) (by decide +kernel) rfl⟩
theorem yc_X9_shades : YC yX9_shades cX9_shades 6 (some .boolean) 3 := ⟨tsg_in (i := 48) (by decide +kernel) rfl, tsg_in (i := 755) (by decide +kernel) rfl, by decide +kernel⟩
theorem yv_X9_shades : YV yX9_shades := ⟨tsg_in (i := 753) (by decide +kernel) rfl, tsg_in (i := 754) (by decide +kernel) rfl⟩
theorem yc_X9_reach : YC yX9_reach cX9_reach 5 (some .int) 2 := ⟨tsg_in (i := 48) (by decide +kernel) rfl, tsg_in (i := 759) (by decide +kernel) rfl, by decide +kernel⟩
theorem yv_X9_reach : YV yX9_reach := ⟨tsg_in (i := 757) (by decide +kernel) rfl, tsg_in (i := 758) (by decide +kernel) rfl⟩
theorem yc_X9_tall : YC yX9_tall cX9_tall 3 (some .int) 2 := ⟨tsg_in (i := 48) (by decide +kernel) rfl, tsg_in (i := 763) (by decide +kernel) rfl, by decide +kernel⟩
theorem yv_X9_tall : YV yX9_tall := ⟨tsg_in (i := 761) (by decide +kernel) rfl, tsg_in (i := 762) (by decide +kernel) rfl⟩
theorem yc_X9_cast : YC yX9_cast cX9_cast 4 (some .int) 1 := ⟨tsg_in (i := 48) (by decide +kernel) rfl, tsg_in (i := 768) (by decide +kernel) rfl, by decide +kernel⟩
theorem yv_X9_cast : YV yX9_cast := ⟨tsg_in (i := 766) (by decide +kernel) rfl, tsg_in (i := 767) (by decide +kernel) rfl⟩
theorem yc_X9_lostTo : YC yX9_lostTo cX9_lostTo 5 (some .int) 2 := ⟨tsg_in (i := 48) (by decide +kernel) rfl, tsg_in (i := 772) (by decide +kernel) rfl, by decide +kernel⟩
theorem yv_X9_lostTo : YV yX9_lostTo := ⟨tsg_in (i := 770) (by decide +kernel) rfl, tsg_in (i := 771) (by decide +kernel) rfl⟩
theorem yc_X10_ofTwo : YC yX10_ofTwo cX10_ofTwo 3 (some .int) 2 := ⟨tsg_in (i := 56) (by decide +kernel) rfl, tsg_in (i := 779) (by decide +kernel) rfl, by decide +kernel⟩
theorem yv_X10_ofTwo : YV yX10_ofTwo := ⟨tsg_in (i := 777) (by decide +kernel) rfl, tsg_in (i := 11) (by decide +kernel) rfl⟩
theorem yc_X9_held : YC yX9_held cX9_held 3 (some .int) 3 := ⟨tsg_in (i := 48) (by decide +kernel) rfl, tsg_in (i := 782) (by decide +kernel) rfl, by decide +kernel⟩
theorem ys_X9_held : YS yX9_held := tsg_in (i := 781) (by decide +kernel) rfl
theorem yc_X9_isSame : YC yX9_isSame cX9_isSame 12 (some .boolean) 1 := ⟨tsg_in (i := 48) (by decide +kernel) rfl, tsg_in (i := 786) (by decide +kernel) rfl, by decide +kernel⟩
theorem yv_X9_isSame : YV yX9_isSame := ⟨tsg_in (i := 784) (by decide +kernel) rfl, tsg_in (i := 785) (by decide +kernel) rfl⟩
theorem yc_X9_all : YC yX9_all cX9_all 3 (some .int) 0 := ⟨tsg_in (i := 48) (by decide +kernel) rfl, tsg_in (i := 795) (by decide +kernel) rfl, by decide +kernel⟩
theorem yv_X9_all : YV yX9_all := ⟨tsg_in (i := 793) (by decide +kernel) rfl, tsg_in (i := 794) (by decide +kernel) rfl⟩
theorem yc_X8_meanLost : YC yX8_meanLost cX8_meanLost 1 (some .double) 0 := ⟨tsg_in (i := 34) (by decide +kernel) rfl, tsg_in (i := 799) (by decide +kernel) rfl, by decide +kernel⟩
theorem yv_X8_meanLost : YV yX8_meanLost := ⟨tsg_in (i := 797) (by decide +kernel) rfl, tsg_in (i := 798) (by decide +kernel) rfl⟩
theorem yc_L_below : YC yL_below cL_below 2 (some .int) 2 := ⟨tsg_in (i := 33) (by decide +kernel) rfl, tsg_in (i := 820) (by decide +kernel) rfl, by decide +kernel⟩
theorem ys_L_below : YS yL_below := tsg_in (i := 819) (by decide +kernel) rfl
theorem yc_L_cell : YC yL_cell cL_cell 2 (some .int) 2 := ⟨tsg_in (i := 33) (by decide +kernel) rfl, tsg_in (i := 824) (by decide +kernel) rfl, by decide +kernel⟩
theorem ys_L_cell : YS yL_cell := tsg_in (i := 823) (by decide +kernel) rfl
theorem yc_L_taught : YC yL_taught cL_taught 6 (some .int) 2 := ⟨tsg_in (i := 33) (by decide +kernel) rfl, tsg_in (i := 828) (by decide +kernel) rfl, by decide +kernel⟩
theorem ys_L_taught : YS yL_taught := tsg_in (i := 827) (by decide +kernel) rfl
theorem yc_J0_length_8abf5 : YC yJ0_length_8abf5 cJ0_length_8abf5 1 (some .int) 0 := ⟨tsg_in (i := 46) (by decide +kernel) rfl, tsg_in (i := 832) (by decide +kernel) rfl, by decide +kernel⟩
theorem yv_J0_length_8abf5 : YV yJ0_length_8abf5 := ⟨tsg_in (i := 830) (by decide +kernel) rfl, tsg_in (i := 831) (by decide +kernel) rfl⟩
theorem yc_J0_coder_7d493 : YC yJ0_coder_7d493 cJ0_coder_7d493 1 (some .byte) 0 := ⟨tsg_in (i := 46) (by decide +kernel) rfl, tsg_in (i := 836) (by decide +kernel) rfl, by decide +kernel⟩
theorem yv_J0_coder_7d493 : YV yJ0_coder_7d493 := ⟨tsg_in (i := 834) (by decide +kernel) rfl, tsg_in (i := 835) (by decide +kernel) rfl⟩
theorem yc_J0_charAt_5068e : YC yJ0_charAt_5068e cJ0_charAt_5068e 2 (some .char) 1 := ⟨tsg_in (i := 46) (by decide +kernel) rfl, tsg_in (i := 842) (by decide +kernel) rfl, by decide +kernel⟩
theorem yv_J0_charAt_5068e : YV yJ0_charAt_5068e := ⟨tsg_in (i := 840) (by decide +kernel) rfl, tsg_in (i := 841) (by decide +kernel) rfl⟩
theorem yc_J0_isLatin1_aae02 : YC yJ0_isLatin1_aae02 cJ0_isLatin1_aae02 1 (some .boolean) 0 := ⟨tsg_in (i := 46) (by decide +kernel) rfl, tsg_in (i := 846) (by decide +kernel) rfl, by decide +kernel⟩
theorem yv_J0_isLatin1_aae02 : YV yJ0_isLatin1_aae02 := ⟨tsg_in (i := 844) (by decide +kernel) rfl, tsg_in (i := 845) (by decide +kernel) rfl⟩
theorem yc_J1_charAt_3b067 : YC yJ1_charAt_3b067 cJ1_charAt_3b067 2 (some .char) 2 := ⟨tsg_in (i := 54) (by decide +kernel) rfl, tsg_in (i := 849) (by decide +kernel) rfl, by decide +kernel⟩
theorem ys_J1_charAt_3b067 : YS yJ1_charAt_3b067 := tsg_in (i := 848) (by decide +kernel) rfl
theorem yc_J0_checkIndex_df160 : YC yJ0_checkIndex_df160 cJ0_checkIndex_df160 2 none 2 := ⟨tsg_in (i := 46) (by decide +kernel) rfl, tsg_in (i := 852) (by decide +kernel) rfl, by decide +kernel⟩
theorem ys_J0_checkIndex_df160 : YS yJ0_checkIndex_df160 := tsg_in (i := 851) (by decide +kernel) rfl
theorem yc_J3_checkIndex_8e157 : YC yJ3_checkIndex_8e157 cJ3_checkIndex_8e157 3 (some .int) 3 := ⟨tsg_in (i := 53) (by decide +kernel) rfl, tsg_in (i := 857) (by decide +kernel) rfl, by decide +kernel⟩
theorem ys_J3_checkIndex_8e157 : YS yJ3_checkIndex_8e157 := tsg_in (i := 856) (by decide +kernel) rfl
theorem yc_J2_charAt_3b067 : YC yJ2_charAt_3b067 cJ2_charAt_3b067 2 (some .char) 2 := ⟨tsg_in (i := 47) (by decide +kernel) rfl, tsg_in (i := 860) (by decide +kernel) rfl, by decide +kernel⟩
theorem ys_J2_charAt_3b067 : YS yJ2_charAt_3b067 := tsg_in (i := 859) (by decide +kernel) rfl
theorem yc_J2_checkIndex_2214a : YC yJ2_checkIndex_2214a cJ2_checkIndex_2214a 2 none 2 := ⟨tsg_in (i := 47) (by decide +kernel) rfl, tsg_in (i := 863) (by decide +kernel) rfl, by decide +kernel⟩
theorem ys_J2_checkIndex_2214a : YS yJ2_checkIndex_2214a := tsg_in (i := 862) (by decide +kernel) rfl
theorem yc_J2_length_9d52b : YC yJ2_length_9d52b cJ2_length_9d52b 1 (some .int) 1 := ⟨tsg_in (i := 47) (by decide +kernel) rfl, tsg_in (i := 866) (by decide +kernel) rfl, by decide +kernel⟩
theorem ys_J2_length_9d52b : YS yJ2_length_9d52b := tsg_in (i := 865) (by decide +kernel) rfl
theorem yc_J2_getChar_3b067 : YC yJ2_getChar_3b067 cJ2_getChar_3b067 2 (some .char) 2 := ⟨tsg_in (i := 47) (by decide +kernel) rfl, tsg_in (i := 870) (by decide +kernel) rfl, by decide +kernel⟩
theorem ys_J2_getChar_3b067 : YS yJ2_getChar_3b067 := tsg_in (i := 869) (by decide +kernel) rfl
theorem yc_X8_feed : YC yX8_feed cX8_feed 6 (some .int) 5 := ⟨tsg_in (i := 34) (by decide +kernel) rfl, tsg_in (i := 880) (by decide +kernel) rfl, by decide +kernel⟩
theorem yv_X8_feed : YV yX8_feed := ⟨tsg_in (i := 878) (by decide +kernel) rfl, tsg_in (i := 879) (by decide +kernel) rfl⟩
theorem yc_X6_append : YC yX6_append cX6_append 3 none 1 := ⟨tsg_in (i := 35) (by decide +kernel) rfl, tsg_in (i := 885) (by decide +kernel) rfl, by decide +kernel⟩
theorem yv_X6_append : YV yX6_append := ⟨tsg_in (i := 883) (by decide +kernel) rfl, tsg_in (i := 884) (by decide +kernel) rfl⟩
theorem yc_X8_trim : YC yX8_trim cX8_trim 2 (some .int) 1 := ⟨tsg_in (i := 34) (by decide +kernel) rfl, tsg_in (i := 889) (by decide +kernel) rfl, by decide +kernel⟩
theorem yv_X8_trim : YV yX8_trim := ⟨tsg_in (i := 887) (by decide +kernel) rfl, tsg_in (i := 888) (by decide +kernel) rfl⟩
theorem yc_X8_teach : YC yX8_teach cX8_teach 2 (some .int) 0 := ⟨tsg_in (i := 34) (by decide +kernel) rfl, tsg_in (i := 894) (by decide +kernel) rfl, by decide +kernel⟩
theorem yv_X8_teach : YV yX8_teach := ⟨tsg_in (i := 892) (by decide +kernel) rfl, tsg_in (i := 893) (by decide +kernel) rfl⟩
theorem yc_X3_read : YC yX3_read cX3_read 2 (some .int) 0 := ⟨tsg_in (i := 38) (by decide +kernel) rfl, tsg_in (i := 898) (by decide +kernel) rfl, by decide +kernel⟩
theorem yv_X3_read : YV yX3_read := ⟨tsg_in (i := 896) (by decide +kernel) rfl, tsg_in (i := 897) (by decide +kernel) rfl⟩
theorem yc_X7_scan : YC yX7_scan cX7_scan 3 none 0 := ⟨tsg_in (i := 39) (by decide +kernel) rfl, tsg_in (i := 902) (by decide +kernel) rfl, by decide +kernel⟩
theorem yv_X7_scan : YV yX7_scan := ⟨tsg_in (i := 900) (by decide +kernel) rfl, tsg_in (i := 901) (by decide +kernel) rfl⟩
theorem yc_X7_behindBlanks : YC yX7_behindBlanks cX7_behindBlanks 3 (some .int) 1 := ⟨tsg_in (i := 39) (by decide +kernel) rfl, tsg_in (i := 906) (by decide +kernel) rfl, by decide +kernel⟩
theorem yv_X7_behindBlanks : YV yX7_behindBlanks := ⟨tsg_in (i := 905) (by decide +kernel) rfl, tsg_in (i := 12) (by decide +kernel) rfl⟩
theorem yc_X6_signAt : YC yX6_signAt cX6_signAt 2 (some .int) 1 := ⟨tsg_in (i := 35) (by decide +kernel) rfl, tsg_in (i := 910) (by decide +kernel) rfl, by decide +kernel⟩
theorem yv_X6_signAt : YV yX6_signAt := ⟨tsg_in (i := 908) (by decide +kernel) rfl, tsg_in (i := 909) (by decide +kernel) rfl⟩
theorem yc_X7_scanToken : YC yX7_scanToken cX7_scanToken 3 (some .int) 1 := ⟨tsg_in (i := 39) (by decide +kernel) rfl, tsg_in (i := 914) (by decide +kernel) rfl, by decide +kernel⟩
theorem yv_X7_scanToken : YV yX7_scanToken := ⟨tsg_in (i := 913) (by decide +kernel) rfl, tsg_in (i := 13) (by decide +kernel) rfl⟩
theorem yc_X7_put : YC yX7_put cX7_put 6 (some .int) 4 := ⟨tsg_in (i := 39) (by decide +kernel) rfl, tsg_in (i := 920) (by decide +kernel) rfl, by decide +kernel⟩
theorem yv_X7_put : YV yX7_put := ⟨tsg_in (i := 919) (by decide +kernel) rfl, tsg_in (i := 14) (by decide +kernel) rfl⟩
theorem yc_X7_isLetter : YC yX7_isLetter cX7_isLetter 1 (some .boolean) 1 := ⟨tsg_in (i := 39) (by decide +kernel) rfl, tsg_in (i := 924) (by decide +kernel) rfl, by decide +kernel⟩
theorem ys_X7_isLetter : YS yX7_isLetter := tsg_in (i := 923) (by decide +kernel) rfl
theorem yc_X7_scanWord : YC yX7_scanWord cX7_scanWord 9 (some .int) 1 := ⟨tsg_in (i := 39) (by decide +kernel) rfl, tsg_in (i := 928) (by decide +kernel) rfl, by decide +kernel⟩
theorem yv_X7_scanWord : YV yX7_scanWord := ⟨tsg_in (i := 927) (by decide +kernel) rfl, tsg_in (i := 15) (by decide +kernel) rfl⟩
theorem yc_X7_isDigit : YC yX7_isDigit cX7_isDigit 1 (some .boolean) 1 := ⟨tsg_in (i := 39) (by decide +kernel) rfl, tsg_in (i := 931) (by decide +kernel) rfl, by decide +kernel⟩
theorem ys_X7_isDigit : YS yX7_isDigit := tsg_in (i := 930) (by decide +kernel) rfl
theorem yc_X1_lengthened : YC yX1_lengthened cX1_lengthened 3 (some .long) 2 := ⟨tsg_in (i := 41) (by decide +kernel) rfl, tsg_in (i := 934) (by decide +kernel) rfl, by decide +kernel⟩
theorem ys_X1_lengthened : YS yX1_lengthened := tsg_in (i := 933) (by decide +kernel) rfl
theorem yc_X7_scanNumber : YC yX7_scanNumber cX7_scanNumber 5 (some .int) 1 := ⟨tsg_in (i := 39) (by decide +kernel) rfl, tsg_in (i := 943) (by decide +kernel) rfl, by decide +kernel⟩
theorem yv_X7_scanNumber : YV yX7_scanNumber := ⟨tsg_in (i := 942) (by decide +kernel) rfl, tsg_in (i := 16) (by decide +kernel) rfl⟩
theorem yc_X7_scanSymbol : YC yX7_scanSymbol cX7_scanSymbol 5 (some .int) 2 := ⟨tsg_in (i := 39) (by decide +kernel) rfl, tsg_in (i := 950) (by decide +kernel) rfl, by decide +kernel⟩
theorem yv_X7_scanSymbol : YV yX7_scanSymbol := ⟨tsg_in (i := 949) (by decide +kernel) rfl, tsg_in (i := 17) (by decide +kernel) rfl⟩
theorem yc_X7_symbol : YC yX7_symbol cX7_symbol 1 (some (.object "ShadowRegistry$Kind")) 1 := ⟨tsg_in (i := 39) (by decide +kernel) rfl, tsg_in (i := 957) (by decide +kernel) rfl, by decide +kernel⟩
theorem ys_X7_symbol : YS yX7_symbol := tsg_in (i := 956) (by decide +kernel) rfl
theorem yc_X0_empty : YC yX0_empty cX0_empty 1 none 0 := ⟨tsg_in (i := 36) (by decide +kernel) rfl, tsg_in (i := 987) (by decide +kernel) rfl, by decide +kernel⟩
theorem yv_X0_empty : YV yX0_empty := ⟨tsg_in (i := 985) (by decide +kernel) rfl, tsg_in (i := 986) (by decide +kernel) rfl⟩
theorem yc_X7_startAt : YC yX7_startAt cX7_startAt 2 (some .int) 1 := ⟨tsg_in (i := 39) (by decide +kernel) rfl, tsg_in (i := 991) (by decide +kernel) rfl, by decide +kernel⟩
theorem yv_X7_startAt : YV yX7_startAt := ⟨tsg_in (i := 989) (by decide +kernel) rfl, tsg_in (i := 990) (by decide +kernel) rfl⟩
theorem yc_X7_kindAt : YC yX7_kindAt cX7_kindAt 2 (some (.object "ShadowRegistry$Kind")) 1 := ⟨tsg_in (i := 39) (by decide +kernel) rfl, tsg_in (i := 995) (by decide +kernel) rfl, by decide +kernel⟩
theorem yv_X7_kindAt : YV yX7_kindAt := ⟨tsg_in (i := 993) (by decide +kernel) rfl, tsg_in (i := 994) (by decide +kernel) rfl⟩
theorem yc_X3_houseLine : YC yX3_houseLine cX3_houseLine 10 none 0 := ⟨tsg_in (i := 38) (by decide +kernel) rfl, tsg_in (i := 1002) (by decide +kernel) rfl, by decide +kernel⟩
theorem yv_X3_houseLine : YV yX3_houseLine := ⟨tsg_in (i := 1001) (by decide +kernel) rfl, tsg_in (i := 18) (by decide +kernel) rfl⟩
theorem yc_X3_take : YC yX3_take cX3_take 4 (some .long) 1 := ⟨tsg_in (i := 38) (by decide +kernel) rfl, tsg_in (i := 1006) (by decide +kernel) rfl, by decide +kernel⟩
theorem yv_X3_take : YV yX3_take := ⟨tsg_in (i := 1005) (by decide +kernel) rfl, tsg_in (i := 19) (by decide +kernel) rfl⟩
theorem yc_X3_fail : YC yX3_fail cX3_fail 1 none 0 := ⟨tsg_in (i := 38) (by decide +kernel) rfl, tsg_in (i := 1010) (by decide +kernel) rfl, by decide +kernel⟩
theorem yv_X3_fail : YV yX3_fail := ⟨tsg_in (i := 1009) (by decide +kernel) rfl, tsg_in (i := 20) (by decide +kernel) rfl⟩
theorem yc_X7_valueAt : YC yX7_valueAt cX7_valueAt 2 (some .long) 1 := ⟨tsg_in (i := 39) (by decide +kernel) rfl, tsg_in (i := 1014) (by decide +kernel) rfl, by decide +kernel⟩
theorem yv_X7_valueAt : YV yX7_valueAt := ⟨tsg_in (i := 1012) (by decide +kernel) rfl, tsg_in (i := 1013) (by decide +kernel) rfl⟩
theorem yc_X0_houseNamed : YC yX0_houseNamed cX0_houseNamed 4 (some .int) 1 := ⟨tsg_in (i := 36) (by decide +kernel) rfl, tsg_in (i := 1019) (by decide +kernel) rfl, by decide +kernel⟩
theorem yv_X0_houseNamed : YV yX0_houseNamed := ⟨tsg_in (i := 1017) (by decide +kernel) rfl, tsg_in (i := 1018) (by decide +kernel) rfl⟩
theorem yc_X3_tell : YC yX3_tell cX3_tell 3 none 2 := ⟨tsg_in (i := 38) (by decide +kernel) rfl, tsg_in (i := 1023) (by decide +kernel) rfl, by decide +kernel⟩
theorem yv_X3_tell : YV yX3_tell := ⟨tsg_in (i := 1022) (by decide +kernel) rfl, tsg_in (i := 21) (by decide +kernel) rfl⟩
theorem yc_X0_isTaken : YC yX0_isTaken cX0_isTaken 4 (some .boolean) 1 := ⟨tsg_in (i := 36) (by decide +kernel) rfl, tsg_in (i := 1031) (by decide +kernel) rfl, by decide +kernel⟩
theorem yv_X0_isTaken : YV yX0_isTaken := ⟨tsg_in (i := 1029) (by decide +kernel) rfl, tsg_in (i := 1030) (by decide +kernel) rfl⟩
theorem yc_X0_addHouse : YC yX0_addHouse cX0_addHouse 5 none 3 := ⟨tsg_in (i := 36) (by decide +kernel) rfl, tsg_in (i := 1038) (by decide +kernel) rfl, by decide +kernel⟩
theorem yv_X0_addHouse : YV yX0_addHouse := ⟨tsg_in (i := 1036) (by decide +kernel) rfl, tsg_in (i := 1037) (by decide +kernel) rfl⟩
theorem yc_X3_lawLine : YC yX3_lawLine cX3_lawLine 2 none 0 := ⟨tsg_in (i := 38) (by decide +kernel) rfl, tsg_in (i := 1042) (by decide +kernel) rfl, by decide +kernel⟩
theorem yv_X3_lawLine : YV yX3_lawLine := ⟨tsg_in (i := 1041) (by decide +kernel) rfl, tsg_in (i := 22) (by decide +kernel) rfl⟩
theorem yc_X3_order : YC yX3_order cX3_order 1 none 0 := ⟨tsg_in (i := 38) (by decide +kernel) rfl, tsg_in (i := 1048) (by decide +kernel) rfl, by decide +kernel⟩
theorem yv_X3_order : YV yX3_order := ⟨tsg_in (i := 1047) (by decide +kernel) rfl, tsg_in (i := 23) (by decide +kernel) rfl⟩
theorem yc_X3_knownHouse : YC yX3_knownHouse cX3_knownHouse 3 (some .int) 0 := ⟨tsg_in (i := 38) (by decide +kernel) rfl, tsg_in (i := 1054) (by decide +kernel) rfl, by decide +kernel⟩
theorem yv_X3_knownHouse : YV yX3_knownHouse := ⟨tsg_in (i := 1053) (by decide +kernel) rfl, tsg_in (i := 24) (by decide +kernel) rfl⟩
theorem yc_X3_sum : YC yX3_sum cX3_sum 4 none 1 := ⟨tsg_in (i := 38) (by decide +kernel) rfl, tsg_in (i := 1060) (by decide +kernel) rfl, by decide +kernel⟩
theorem yv_X3_sum : YV yX3_sum := ⟨tsg_in (i := 1059) (by decide +kernel) rfl, tsg_in (i := 25) (by decide +kernel) rfl⟩
theorem yc_X3_product : YC yX3_product cX3_product 4 none 1 := ⟨tsg_in (i := 38) (by decide +kernel) rfl, tsg_in (i := 1064) (by decide +kernel) rfl, by decide +kernel⟩
theorem yv_X3_product : YV yX3_product := ⟨tsg_in (i := 1063) (by decide +kernel) rfl, tsg_in (i := 26) (by decide +kernel) rfl⟩
theorem yc_X3_value : YC yX3_value cX3_value 3 none 1 := ⟨tsg_in (i := 38) (by decide +kernel) rfl, tsg_in (i := 1068) (by decide +kernel) rfl, by decide +kernel⟩
theorem yv_X3_value : YV yX3_value := ⟨tsg_in (i := 1067) (by decide +kernel) rfl, tsg_in (i := 27) (by decide +kernel) rfl⟩
theorem yc_X0_addStep : YC yX0_addStep cX0_addStep 4 none 3 := ⟨tsg_in (i := 36) (by decide +kernel) rfl, tsg_in (i := 1072) (by decide +kernel) rfl, by decide +kernel⟩
theorem yv_X0_addStep : YV yX0_addStep := ⟨tsg_in (i := 1070) (by decide +kernel) rfl, tsg_in (i := 1071) (by decide +kernel) rfl⟩
theorem yc_X3_goesDeeper : YC yX3_goesDeeper cX3_goesDeeper 3 (some .boolean) 2 := ⟨tsg_in (i := 38) (by decide +kernel) rfl, tsg_in (i := 1089) (by decide +kernel) rfl, by decide +kernel⟩
theorem yv_X3_goesDeeper : YV yX3_goesDeeper := ⟨tsg_in (i := 1088) (by decide +kernel) rfl, tsg_in (i := 28) (by decide +kernel) rfl⟩
theorem yc_X3_choice : YC yX3_choice cX3_choice 3 none 1 := ⟨tsg_in (i := 38) (by decide +kernel) rfl, tsg_in (i := 1099) (by decide +kernel) rfl, by decide +kernel⟩
theorem yv_X3_choice : YV yX3_choice := ⟨tsg_in (i := 1098) (by decide +kernel) rfl, tsg_in (i := 29) (by decide +kernel) rfl⟩
theorem yc_X3_test : YC yX3_test cX3_test 3 none 1 := ⟨tsg_in (i := 38) (by decide +kernel) rfl, tsg_in (i := 1117) (by decide +kernel) rfl, by decide +kernel⟩
theorem yv_X3_test : YV yX3_test := ⟨tsg_in (i := 1116) (by decide +kernel) rfl, tsg_in (i := 30) (by decide +kernel) rfl⟩
theorem yc_X3_both : YC yX3_both cX3_both 3 none 1 := ⟨tsg_in (i := 38) (by decide +kernel) rfl, tsg_in (i := 1121) (by decide +kernel) rfl, by decide +kernel⟩
theorem yv_X3_both : YV yX3_both := ⟨tsg_in (i := 1120) (by decide +kernel) rfl, tsg_in (i := 31) (by decide +kernel) rfl⟩
theorem yc_X3_single : YC yX3_single cX3_single 3 none 1 := ⟨tsg_in (i := 38) (by decide +kernel) rfl, tsg_in (i := 1125) (by decide +kernel) rfl, by decide +kernel⟩
theorem yv_X3_single : YV yX3_single := ⟨tsg_in (i := 1124) (by decide +kernel) rfl, tsg_in (i := 32) (by decide +kernel) rfl⟩
theorem yc_X3_comparisonOp : YC yX3_comparisonOp cX3_comparisonOp 1 (some .int) 1 := ⟨tsg_in (i := 38) (by decide +kernel) rfl, tsg_in (i := 1136) (by decide +kernel) rfl, by decide +kernel⟩
theorem ys_X3_comparisonOp : YS yX3_comparisonOp := tsg_in (i := 1135) (by decide +kernel) rfl
theorem yc_X0_addLaw : YC yX0_addLaw cX0_addLaw 3 none 1 := ⟨tsg_in (i := 36) (by decide +kernel) rfl, tsg_in (i := 1149) (by decide +kernel) rfl, by decide +kernel⟩
theorem yv_X0_addLaw : YV yX0_addLaw := ⟨tsg_in (i := 1147) (by decide +kernel) rfl, tsg_in (i := 1148) (by decide +kernel) rfl⟩
theorem yc_X2_become : YC yX2_become cX2_become 2 none 1 := ⟨tsg_in (i := 37) (by decide +kernel) rfl, tsg_in (i := 1153) (by decide +kernel) rfl, by decide +kernel⟩
theorem yv_X2_become : YV yX2_become := ⟨tsg_in (i := 1151) (by decide +kernel) rfl, tsg_in (i := 1152) (by decide +kernel) rfl⟩
theorem yc_X0_become : YC yX0_become cX0_become 4 none 1 := ⟨tsg_in (i := 36) (by decide +kernel) rfl, tsg_in (i := 1158) (by decide +kernel) rfl, by decide +kernel⟩
theorem yv_X0_become : YV yX0_become := ⟨tsg_in (i := 1156) (by decide +kernel) rfl, tsg_in (i := 1157) (by decide +kernel) rfl⟩
theorem yc_X5_beginWith : YC yX5_beginWith cX5_beginWith 4 none 1 := ⟨tsg_in (i := 43) (by decide +kernel) rfl, tsg_in (i := 1167) (by decide +kernel) rfl, by decide +kernel⟩
theorem yv_X5_beginWith : YV yX5_beginWith := ⟨tsg_in (i := 1165) (by decide +kernel) rfl, tsg_in (i := 1166) (by decide +kernel) rfl⟩
theorem yc_L_told : YC yL_told cL_told 11 (some (.object "ShadowRegistryLaw$Sim")) 3 := ⟨tsg_in (i := 33) (by decide +kernel) rfl, tsg_in (i := 1171) (by decide +kernel) rfl, by decide +kernel⟩
theorem ys_L_told : YS yL_told := tsg_in (i := 1170) (by decide +kernel) rfl
theorem yc_X9_init : YC yX9_init cX9_init 1 none 0 := ⟨tsg_in (i := 48) (by decide +kernel) rfl, tsg_in (i := 1176) (by decide +kernel) rfl, by decide +kernel⟩
theorem yi_X9_init : YI yX9_init := ⟨tsg_in (i := 1175) (by decide +kernel) rfl, rfl⟩
theorem yc_X9_with : YC yX9_with cX9_with 4 (some (.array (.array .int))) 2 := ⟨tsg_in (i := 48) (by decide +kernel) rfl, tsg_in (i := 1214) (by decide +kernel) rfl, by decide +kernel⟩
theorem ys_X9_with : YS yX9_with := tsg_in (i := 1213) (by decide +kernel) rfl
theorem yc_J4_append_15ec4 : YC yJ4_append_15ec4 cJ4_append_15ec4 2 (some (.object "java/lang/StringBuilder")) 1 := ⟨tsg_in (i := 45) (by decide +kernel) rfl, tsg_in (i := 1219) (by decide +kernel) rfl, by decide +kernel⟩
theorem yv_J4_append_15ec4 : YV yJ4_append_15ec4 := ⟨tsg_in (i := 1217) (by decide +kernel) rfl, tsg_in (i := 1218) (by decide +kernel) rfl⟩
theorem yc_J5_append_cf1ce : YC yJ5_append_cf1ce cJ5_append_cf1ce 3 (some (.object "java/lang/AbstractStringBuilder")) 1 := ⟨tsg_in (i := 44) (by decide +kernel) rfl, tsg_in (i := 1223) (by decide +kernel) rfl, by decide +kernel⟩
theorem yc_J5_appendNull_278bc : YC yJ5_appendNull_278bc cJ5_appendNull_278bc 3 (some (.object "java/lang/AbstractStringBuilder")) 0 := ⟨tsg_in (i := 44) (by decide +kernel) rfl, tsg_in (i := 1227) (by decide +kernel) rfl, by decide +kernel⟩
theorem yc_J5_ensureCapacityInternal_d00df : YC yJ5_ensureCapacityInternal_d00df cJ5_ensureCapacityInternal_d00df 3 none 1 := ⟨tsg_in (i := 44) (by decide +kernel) rfl, tsg_in (i := 1231) (by decide +kernel) rfl, by decide +kernel⟩
theorem yc_J5_newCapacity_0f7a4 : YC yJ5_newCapacity_0f7a4 cJ5_newCapacity_0f7a4 6 (some .int) 1 := ⟨tsg_in (i := 44) (by decide +kernel) rfl, tsg_in (i := 1235) (by decide +kernel) rfl, by decide +kernel⟩
theorem yc_J8_newLength_cabcc : YC yJ8_newLength_cabcc cJ8_newLength_cabcc 4 (some .int) 3 := ⟨tsg_in (i := 49) (by decide +kernel) rfl, tsg_in (i := 1238) (by decide +kernel) rfl, by decide +kernel⟩
theorem ys_J8_newLength_cabcc : YS yJ8_newLength_cabcc := tsg_in (i := 1237) (by decide +kernel) rfl
theorem yc_J8_hugeLength_7cf53 : YC yJ8_hugeLength_7cf53 cJ8_hugeLength_7cf53 3 (some .int) 2 := ⟨tsg_in (i := 49) (by decide +kernel) rfl, tsg_in (i := 1243) (by decide +kernel) rfl, by decide +kernel⟩
theorem ys_J8_hugeLength_7cf53 : YS yJ8_hugeLength_7cf53 := tsg_in (i := 1242) (by decide +kernel) rfl
theorem yc_J7_copyOf_9075b : YC yJ7_copyOf_9075b cJ7_copyOf_9075b 3 (some (.array .byte)) 2 := ⟨tsg_in (i := 51) (by decide +kernel) rfl, tsg_in (i := 1247) (by decide +kernel) rfl, by decide +kernel⟩
theorem ys_J7_copyOf_9075b : YS yJ7_copyOf_9075b := tsg_in (i := 1246) (by decide +kernel) rfl
theorem yc_J5_isLatin1_aae02 : YC yJ5_isLatin1_aae02 cJ5_isLatin1_aae02 1 (some .boolean) 0 := ⟨tsg_in (i := 44) (by decide +kernel) rfl, tsg_in (i := 1261) (by decide +kernel) rfl, by decide +kernel⟩
theorem yc_J2_putCharsAt_cd4e5 : YC yJ2_putCharsAt_cd4e5 cJ2_putCharsAt_cd4e5 7 (some .int) 6 := ⟨tsg_in (i := 47) (by decide +kernel) rfl, tsg_in (i := 1265) (by decide +kernel) rfl, by decide +kernel⟩
theorem ys_J2_putCharsAt_cd4e5 : YS yJ2_putCharsAt_cd4e5 := tsg_in (i := 1264) (by decide +kernel) rfl
theorem yc_J2_checkBoundsBeginEnd_d044e : YC yJ2_checkBoundsBeginEnd_d044e cJ2_checkBoundsBeginEnd_d044e 3 none 3 := ⟨tsg_in (i := 47) (by decide +kernel) rfl, tsg_in (i := 1268) (by decide +kernel) rfl, by decide +kernel⟩
theorem ys_J2_checkBoundsBeginEnd_d044e : YS yJ2_checkBoundsBeginEnd_d044e := tsg_in (i := 1267) (by decide +kernel) rfl
theorem yc_J0_checkBoundsBeginEnd_23922 : YC yJ0_checkBoundsBeginEnd_23922 cJ0_checkBoundsBeginEnd_23922 3 none 3 := ⟨tsg_in (i := 46) (by decide +kernel) rfl, tsg_in (i := 1271) (by decide +kernel) rfl, by decide +kernel⟩
theorem ys_J0_checkBoundsBeginEnd_23922 : YS yJ0_checkBoundsBeginEnd_23922 := tsg_in (i := 1270) (by decide +kernel) rfl
theorem yc_J3_checkFromToIndex_8c36e : YC yJ3_checkFromToIndex_8c36e cJ3_checkFromToIndex_8c36e 4 (some .int) 4 := ⟨tsg_in (i := 53) (by decide +kernel) rfl, tsg_in (i := 1274) (by decide +kernel) rfl, by decide +kernel⟩
theorem ys_J3_checkFromToIndex_8c36e : YS yJ3_checkFromToIndex_8c36e := tsg_in (i := 1273) (by decide +kernel) rfl
theorem yc_J2_putChar_b72d1 : YC yJ2_putChar_b72d1 cJ2_putChar_b72d1 3 none 3 := ⟨tsg_in (i := 47) (by decide +kernel) rfl, tsg_in (i := 1277) (by decide +kernel) rfl, by decide +kernel⟩
theorem ys_J2_putChar_b72d1 : YS yJ2_putChar_b72d1 := tsg_in (i := 1276) (by decide +kernel) rfl
theorem yc_J5_putStringAt_47b60 : YC yJ5_putStringAt_47b60 cJ5_putStringAt_47b60 3 none 2 := ⟨tsg_in (i := 44) (by decide +kernel) rfl, tsg_in (i := 1282) (by decide +kernel) rfl, by decide +kernel⟩
theorem yc_J5_inflateIfNeededFor_a7421 : YC yJ5_inflateIfNeededFor_a7421 cJ5_inflateIfNeededFor_a7421 2 none 1 := ⟨tsg_in (i := 44) (by decide +kernel) rfl, tsg_in (i := 1286) (by decide +kernel) rfl, by decide +kernel⟩
theorem yc_J5_inflate_da8c8 : YC yJ5_inflate_da8c8 cJ5_inflate_da8c8 2 none 0 := ⟨tsg_in (i := 44) (by decide +kernel) rfl, tsg_in (i := 1291) (by decide +kernel) rfl, by decide +kernel⟩
theorem yc_J2_newBytesFor_77867 : YC yJ2_newBytesFor_77867 cJ2_newBytesFor_77867 1 (some (.array .byte)) 1 := ⟨tsg_in (i := 47) (by decide +kernel) rfl, tsg_in (i := 1294) (by decide +kernel) rfl, by decide +kernel⟩
theorem ys_J2_newBytesFor_77867 : YS yJ2_newBytesFor_77867 := tsg_in (i := 1293) (by decide +kernel) rfl
theorem yc_J2_newBytesLength_0f7a4 : YC yJ2_newBytesLength_0f7a4 cJ2_newBytesLength_0f7a4 1 (some .int) 1 := ⟨tsg_in (i := 47) (by decide +kernel) rfl, tsg_in (i := 1297) (by decide +kernel) rfl, by decide +kernel⟩
theorem ys_J2_newBytesLength_0f7a4 : YS yJ2_newBytesLength_0f7a4 := tsg_in (i := 1296) (by decide +kernel) rfl
theorem yc_J1_inflate_0e8fd : YC yJ1_inflate_0e8fd cJ1_inflate_0e8fd 5 none 5 := ⟨tsg_in (i := 54) (by decide +kernel) rfl, tsg_in (i := 1301) (by decide +kernel) rfl, by decide +kernel⟩
theorem ys_J1_inflate_0e8fd : YS yJ1_inflate_0e8fd := tsg_in (i := 1300) (by decide +kernel) rfl
theorem yc_J2_inflate_0e8fd : YC yJ2_inflate_0e8fd cJ2_inflate_0e8fd 6 none 5 := ⟨tsg_in (i := 47) (by decide +kernel) rfl, tsg_in (i := 1304) (by decide +kernel) rfl, by decide +kernel⟩
theorem ys_J2_inflate_0e8fd : YS yJ2_inflate_0e8fd := tsg_in (i := 1303) (by decide +kernel) rfl
theorem yc_J2_checkBoundsOffCount_d044e : YC yJ2_checkBoundsOffCount_d044e cJ2_checkBoundsOffCount_d044e 3 none 3 := ⟨tsg_in (i := 47) (by decide +kernel) rfl, tsg_in (i := 1307) (by decide +kernel) rfl, by decide +kernel⟩
theorem ys_J2_checkBoundsOffCount_d044e : YS yJ2_checkBoundsOffCount_d044e := tsg_in (i := 1306) (by decide +kernel) rfl
theorem yc_J0_checkBoundsOffCount_cabcc : YC yJ0_checkBoundsOffCount_cabcc cJ0_checkBoundsOffCount_cabcc 3 (some .int) 3 := ⟨tsg_in (i := 46) (by decide +kernel) rfl, tsg_in (i := 1310) (by decide +kernel) rfl, by decide +kernel⟩
theorem ys_J0_checkBoundsOffCount_cabcc : YS yJ0_checkBoundsOffCount_cabcc := tsg_in (i := 1309) (by decide +kernel) rfl
theorem yc_J3_checkFromIndexSize_8c36e : YC yJ3_checkFromIndexSize_8c36e cJ3_checkFromIndexSize_8c36e 4 (some .int) 4 := ⟨tsg_in (i := 53) (by decide +kernel) rfl, tsg_in (i := 1313) (by decide +kernel) rfl, by decide +kernel⟩
theorem ys_J3_checkFromIndexSize_8c36e : YS yJ3_checkFromIndexSize_8c36e := tsg_in (i := 1312) (by decide +kernel) rfl
theorem yc_J0_getBytes_840e7 : YC yJ0_getBytes_840e7 cJ0_getBytes_840e7 4 none 3 := ⟨tsg_in (i := 46) (by decide +kernel) rfl, tsg_in (i := 1317) (by decide +kernel) rfl, by decide +kernel⟩
theorem yv_J0_getBytes_840e7 : YV yJ0_getBytes_840e7 := ⟨tsg_in (i := 1315) (by decide +kernel) rfl, tsg_in (i := 1316) (by decide +kernel) rfl⟩
theorem yc_J4_append_bf812 : YC yJ4_append_bf812 cJ4_append_bf812 2 (some (.object "java/lang/StringBuilder")) 1 := ⟨tsg_in (i := 45) (by decide +kernel) rfl, tsg_in (i := 1323) (by decide +kernel) rfl, by decide +kernel⟩
theorem yv_J4_append_bf812 : YV yJ4_append_bf812 := ⟨tsg_in (i := 1321) (by decide +kernel) rfl, tsg_in (i := 1322) (by decide +kernel) rfl⟩
theorem yc_J5_append_c97b9 : YC yJ5_append_c97b9 cJ5_append_c97b9 4 (some (.object "java/lang/AbstractStringBuilder")) 1 := ⟨tsg_in (i := 44) (by decide +kernel) rfl, tsg_in (i := 1326) (by decide +kernel) rfl, by decide +kernel⟩
theorem yc_J6_stringSize_0f7a4 : YC yJ6_stringSize_0f7a4 cJ6_stringSize_0f7a4 4 (some .int) 1 := ⟨tsg_in (i := 55) (by decide +kernel) rfl, tsg_in (i := 1329) (by decide +kernel) rfl, by decide +kernel⟩
theorem ys_J6_stringSize_0f7a4 : YS yJ6_stringSize_0f7a4 := tsg_in (i := 1328) (by decide +kernel) rfl
theorem yc_J6_getChars_ba4f3 : YC yJ6_getChars_ba4f3 cJ6_getChars_ba4f3 7 (some .int) 3 := ⟨tsg_in (i := 55) (by decide +kernel) rfl, tsg_in (i := 1332) (by decide +kernel) rfl, by decide +kernel⟩
theorem ys_J6_getChars_ba4f3 : YS yJ6_getChars_ba4f3 := tsg_in (i := 1331) (by decide +kernel) rfl
theorem yc_J2_getChars_46870 : YC yJ2_getChars_46870 cJ2_getChars_46870 5 (some .int) 4 := ⟨tsg_in (i := 47) (by decide +kernel) rfl, tsg_in (i := 1339) (by decide +kernel) rfl, by decide +kernel⟩
theorem ys_J2_getChars_46870 : YS yJ2_getChars_46870 := tsg_in (i := 1338) (by decide +kernel) rfl
theorem yc_J2_getChars_ba4f3 : YC yJ2_getChars_ba4f3 cJ2_getChars_ba4f3 7 (some .int) 3 := ⟨tsg_in (i := 47) (by decide +kernel) rfl, tsg_in (i := 1342) (by decide +kernel) rfl, by decide +kernel⟩
theorem ys_J2_getChars_ba4f3 : YS yJ2_getChars_ba4f3 := tsg_in (i := 1341) (by decide +kernel) rfl
theorem yc_L_sum : YC yL_sum cL_sum 5 (some (.object "ShadowRegistryLaw$Tree")) 3 := ⟨tsg_in (i := 33) (by decide +kernel) rfl, tsg_in (i := 1351) (by decide +kernel) rfl, by decide +kernel⟩
theorem ys_L_sum : YS yL_sum := tsg_in (i := 1350) (by decide +kernel) rfl
theorem yc_X10_init : YC yX10_init cX10_init 1 none 0 := ⟨tsg_in (i := 56) (by decide +kernel) rfl, tsg_in (i := 1354) (by decide +kernel) rfl, by decide +kernel⟩
theorem yi_X10_init : YI yX10_init := ⟨tsg_in (i := 1353) (by decide +kernel) rfl, rfl⟩
theorem yc_L_test : YC yL_test cL_test 5 (some (.object "ShadowRegistryLaw$Tree")) 3 := ⟨tsg_in (i := 33) (by decide +kernel) rfl, tsg_in (i := 1381) (by decide +kernel) rfl, by decide +kernel⟩
theorem ys_L_test : YS yL_test := tsg_in (i := 1380) (by decide +kernel) rfl
theorem yc_X10_text : YC yX10_text cX10_text 4 (some (.object "java/lang/String")) 0 := ⟨tsg_in (i := 56) (by decide +kernel) rfl, tsg_in (i := 1390) (by decide +kernel) rfl, by decide +kernel⟩
theorem yv_X10_text : YV yX10_text := ⟨tsg_in (i := 1388) (by decide +kernel) rfl, tsg_in (i := 1389) (by decide +kernel) rfl⟩
theorem yc_J4_init_da8c8 : YC yJ4_init_da8c8 cJ4_init_da8c8 1 none 0 := ⟨tsg_in (i := 45) (by decide +kernel) rfl, tsg_in (i := 1414) (by decide +kernel) rfl, by decide +kernel⟩
theorem yi_J4_init_da8c8 : YI yJ4_init_da8c8 := ⟨tsg_in (i := 1413) (by decide +kernel) rfl, rfl⟩
theorem yc_J5_init_d00df : YC yJ5_init_d00df cJ5_init_d00df 2 none 1 := ⟨tsg_in (i := 44) (by decide +kernel) rfl, tsg_in (i := 1417) (by decide +kernel) rfl, by decide +kernel⟩
theorem yi_J5_init_d00df : YI yJ5_init_d00df := ⟨tsg_in (i := 1416) (by decide +kernel) rfl, rfl⟩
theorem yc_J4_toString_0e30d : YC yJ4_toString_0e30d cJ4_toString_0e30d 1 (some (.object "java/lang/String")) 0 := ⟨tsg_in (i := 45) (by decide +kernel) rfl, tsg_in (i := 1436) (by decide +kernel) rfl, by decide +kernel⟩
theorem yv_J4_toString_0e30d : YV yJ4_toString_0e30d := ⟨tsg_in (i := 1434) (by decide +kernel) rfl, tsg_in (i := 1435) (by decide +kernel) rfl⟩
theorem yc_J0_init_81219 : YC yJ0_init_81219 cJ0_init_81219 2 none 1 := ⟨tsg_in (i := 46) (by decide +kernel) rfl, tsg_in (i := 1441) (by decide +kernel) rfl, by decide +kernel⟩
theorem yi_J0_init_81219 : YI yJ0_init_81219 := ⟨tsg_in (i := 1440) (by decide +kernel) rfl, rfl⟩
theorem yc_J0_init_db425 : YC yJ0_init_db425 cJ0_init_db425 5 none 2 := ⟨tsg_in (i := 46) (by decide +kernel) rfl, tsg_in (i := 1444) (by decide +kernel) rfl, by decide +kernel⟩
theorem yi_J0_init_db425 : YI yJ0_init_db425 := ⟨tsg_in (i := 1443) (by decide +kernel) rfl, rfl⟩
theorem yc_J5_getValue_6d5f1 : YC yJ5_getValue_6d5f1 cJ5_getValue_6d5f1 1 (some (.array .byte)) 0 := ⟨tsg_in (i := 44) (by decide +kernel) rfl, tsg_in (i := 1450) (by decide +kernel) rfl, by decide +kernel⟩
theorem yc_J4_length_8abf5 : YC yJ4_length_8abf5 cJ4_length_8abf5 1 (some .int) 0 := ⟨tsg_in (i := 45) (by decide +kernel) rfl, tsg_in (i := 1456) (by decide +kernel) rfl, by decide +kernel⟩
theorem yc_J5_length_8abf5 : YC yJ5_length_8abf5 cJ5_length_8abf5 1 (some .int) 0 := ⟨tsg_in (i := 44) (by decide +kernel) rfl, tsg_in (i := 1458) (by decide +kernel) rfl, by decide +kernel⟩
theorem yc_J7_copyOfRange_39247 : YC yJ7_copyOfRange_39247 cJ7_copyOfRange_39247 3 (some (.array .byte)) 3 := ⟨tsg_in (i := 51) (by decide +kernel) rfl, tsg_in (i := 1462) (by decide +kernel) rfl, by decide +kernel⟩
theorem ys_J7_copyOfRange_39247 : YS yJ7_copyOfRange_39247 := tsg_in (i := 1461) (by decide +kernel) rfl
theorem yc_J7_copyOfRangeByte_39247 : YC yJ7_copyOfRangeByte_39247 cJ7_copyOfRangeByte_39247 5 (some (.array .byte)) 3 := ⟨tsg_in (i := 51) (by decide +kernel) rfl, tsg_in (i := 1465) (by decide +kernel) rfl, by decide +kernel⟩
theorem ys_J7_copyOfRangeByte_39247 : YS yJ7_copyOfRangeByte_39247 := tsg_in (i := 1464) (by decide +kernel) rfl
theorem yc_J7_checkLength_df160 : YC yJ7_checkLength_df160 cJ7_checkLength_df160 2 none 2 := ⟨tsg_in (i := 51) (by decide +kernel) rfl, tsg_in (i := 1468) (by decide +kernel) rfl, by decide +kernel⟩
theorem ys_J7_checkLength_df160 : YS yJ7_checkLength_df160 := tsg_in (i := 1467) (by decide +kernel) rfl
theorem yc_J2_compress_39247 : YC yJ2_compress_39247 cJ2_compress_39247 6 (some (.array .byte)) 3 := ⟨tsg_in (i := 47) (by decide +kernel) rfl, tsg_in (i := 1471) (by decide +kernel) rfl, by decide +kernel⟩
theorem ys_J2_compress_39247 : YS yJ2_compress_39247 := tsg_in (i := 1470) (by decide +kernel) rfl
theorem yc_J2_compress_5af95 : YC yJ2_compress_5af95 cJ2_compress_5af95 7 (some .int) 5 := ⟨tsg_in (i := 47) (by decide +kernel) rfl, tsg_in (i := 1474) (by decide +kernel) rfl, by decide +kernel⟩
theorem ys_J2_compress_5af95 : YS yJ2_compress_5af95 := tsg_in (i := 1473) (by decide +kernel) rfl
theorem yc_J2_coderFromArrayLen_85cad : YC yJ2_coderFromArrayLen_85cad cJ2_coderFromArrayLen_85cad 2 (some .byte) 2 := ⟨tsg_in (i := 47) (by decide +kernel) rfl, tsg_in (i := 1478) (by decide +kernel) rfl, by decide +kernel⟩
theorem ys_J2_coderFromArrayLen_85cad : YS yJ2_coderFromArrayLen_85cad := tsg_in (i := 1477) (by decide +kernel) rfl
theorem yc_L_act : YC yL_act cL_act 9 (some .boolean) 3 := ⟨tsg_in (i := 33) (by decide +kernel) rfl, tsg_in (i := 1513) (by decide +kernel) rfl, by decide +kernel⟩
theorem ys_L_act : YS yL_act := tsg_in (i := 1512) (by decide +kernel) rfl
theorem yc_X8_move : YC yX8_move cX8_move 4 (some .int) 2 := ⟨tsg_in (i := 34) (by decide +kernel) rfl, tsg_in (i := 1518) (by decide +kernel) rfl, by decide +kernel⟩
theorem yv_X8_move : YV yX8_move := ⟨tsg_in (i := 1516) (by decide +kernel) rfl, tsg_in (i := 1517) (by decide +kernel) rfl⟩
theorem yc_X5_givePlace : YC yX5_givePlace cX5_givePlace 3 none 2 := ⟨tsg_in (i := 43) (by decide +kernel) rfl, tsg_in (i := 1524) (by decide +kernel) rfl, by decide +kernel⟩
theorem yv_X5_givePlace : YV yX5_givePlace := ⟨tsg_in (i := 1522) (by decide +kernel) rfl, tsg_in (i := 1523) (by decide +kernel) rfl⟩
theorem lm_L_162 : LkM RL 162 yX8_init := tsg_in (i := 65) (by decide +kernel) rfl
theorem ln_X8_11 : LkN RX8 11 yX6_init := ⟨"ShadowRegistry", nws_in (i := 73) (by decide +kernel) rfl⟩
theorem lm_X8_18 : LkM RX8 18 yX0_init := tsg_in (i := 89) (by decide +kernel) rfl
theorem ln_X0_37 : LkN RX0 37 yX2_init := ⟨"ShadowRegistry", nws_in (i := 96) (by decide +kernel) rfl⟩
theorem lm_X8_27 : LkM RX8 27 yX7_init := tsg_in (i := 179) (by decide +kernel) rfl
theorem lm_X8_30 : LkM RX8 30 yX3_init := tsg_in (i := 201) (by decide +kernel) rfl
theorem ln_X3_11 : LkN RX3 11 yX2_init := ⟨"ShadowRegistry", nws_in (i := 206) (by decide +kernel) rfl⟩
theorem lm_X8_42 : LkM RX8 42 yX4_init := tsg_in (i := 240) (by decide +kernel) rfl
theorem ln_X8_51 : LkN RX8 51 yX5_init := ⟨"ShadowRegistry", nws_in (i := 256) (by decide +kernel) rfl⟩
theorem lm_L_171 : LkM RL 171 yX8_houses := tsg_in (i := 325) (by decide +kernel) rfl
theorem lm_L_240 : LkM RL 240 yX8_allHoursLost := tsg_in (i := 329) (by decide +kernel) rfl
theorem lm_L_243 : LkM RL 243 yX8_lightHouses := tsg_in (i := 333) (by decide +kernel) rfl
theorem lm_X8_110 : LkM RX8 110 yX5_lost := tsg_in (i := 337) (by decide +kernel) rfl
theorem lm_X5_83 : LkM RX5 83 yX5_hoursDark := tsg_in (i := 341) (by decide +kernel) rfl
theorem lm_X5_70 : LkM RX5 70 yX5_has := tsg_in (i := 345) (by decide +kernel) rfl
theorem lm_X5_86 : LkM RX5 86 yJ6_bitCount_0f7a4 := tsg_in (i := 349) (by decide +kernel) rfl
theorem lm_L_231 : LkM RL 231 yX8_worstHouse := tsg_in (i := 355) (by decide +kernel) rfl
theorem lm_L_234 : LkM RL 234 yX8_darkestWall := tsg_in (i := 426) (by decide +kernel) rfl
theorem lm_X8_116 : LkM RX8 116 yX5_cast := tsg_in (i := 430) (by decide +kernel) rfl
theorem lm_L_208 : LkM RL 208 yX8_placeOf := tsg_in (i := 434) (by decide +kernel) rfl
theorem lm_X8_119 : LkM RX8 119 yX8_checkHouse := tsg_in (i := 438) (by decide +kernel) rfl
theorem lm_X8_225 : LkM RX8 225 yX5_has := tsg_in (i := 442) (by decide +kernel) rfl
theorem lm_X8_122 : LkM RX8 122 yX5_place := tsg_in (i := 459) (by decide +kernel) rfl
theorem lm_L_198 : LkM RL 198 yX8_heightOf := tsg_in (i := 463) (by decide +kernel) rfl
theorem lm_X8_125 : LkM RX8 125 yX5_height := tsg_in (i := 467) (by decide +kernel) rfl
theorem lm_L_228 : LkM RL 228 yX8_hoursLost := tsg_in (i := 471) (by decide +kernel) rfl
theorem lm_L_225 : LkM RL 225 yX8_castBy := tsg_in (i := 475) (by decide +kernel) rfl
theorem lm_L_185 : LkM RL 185 yX8_hasCurfew := tsg_in (i := 479) (by decide +kernel) rfl
theorem lm_X8_128 : LkM RX8 128 yX5_firstLow := tsg_in (i := 483) (by decide +kernel) rfl
theorem lm_L_189 : LkM RL 189 yX8_curfewFrom := tsg_in (i := 487) (by decide +kernel) rfl
theorem lm_X8_131 : LkM RX8 131 yX8_checkCurfew := tsg_in (i := 491) (by decide +kernel) rfl
theorem lm_L_192 : LkM RL 192 yX8_curfewTo := tsg_in (i := 496) (by decide +kernel) rfl
theorem lm_X8_134 : LkM RX8 134 yX5_lastLow := tsg_in (i := 500) (by decide +kernel) rfl
theorem lm_L_219 : LkM RL 219 yX8_hoursLostTo := tsg_in (i := 504) (by decide +kernel) rfl
theorem lm_X8_137 : LkM RX8 137 yX5_hoursShaded := tsg_in (i := 508) (by decide +kernel) rfl
theorem lm_X8_141 : LkM RX8 141 yJ6_bitCount_0f7a4 := tsg_in (i := 512) (by decide +kernel) rfl
theorem lm_L_195 : LkM RL 195 yX8_heightAt := tsg_in (i := 513) (by decide +kernel) rfl
theorem lm_X8_146 : LkM RX8 146 yX8_checkHour := tsg_in (i := 517) (by decide +kernel) rfl
theorem lm_X8_149 : LkM RX8 149 yX5_wallAt := tsg_in (i := 521) (by decide +kernel) rfl
theorem lm_L_216 : LkM RL 216 yX8_shadowOf := tsg_in (i := 525) (by decide +kernel) rfl
theorem lm_X8_152 : LkM RX8 152 yX5_reach := tsg_in (i := 529) (by decide +kernel) rfl
theorem lm_X5_74 : LkM RX5 74 yJ9_abs_0f7a4 := tsg_in (i := 533) (by decide +kernel) rfl
theorem lm_X5_80 : LkM RX5 80 yX5_wallAt := tsg_in (i := 536) (by decide +kernel) rfl
theorem lm_L_204 : LkM RL 204 yX8_shades := tsg_in (i := 537) (by decide +kernel) rfl
theorem lm_X8_155 : LkM RX8 155 yX8_holdsHour := tsg_in (i := 541) (by decide +kernel) rfl
theorem lm_L_181 : LkM RL 181 yX8_isInTheDark := tsg_in (i := 544) (by decide +kernel) rfl
theorem lm_X8_159 : LkM RX8 159 yX5_hoursDark := tsg_in (i := 548) (by decide +kernel) rfl
theorem lm_L_201 : LkM RL 201 yX8_shadedBy := tsg_in (i := 549) (by decide +kernel) rfl
theorem lm_X8_164 : LkM RX8 164 yJ9_abs_0f7a4 := tsg_in (i := 554) (by decide +kernel) rfl
theorem lm_L_237 : LkM RL 237 yX8_housesInTheDark := tsg_in (i := 555) (by decide +kernel) rfl
theorem lm_X8_169 : LkM RX8 169 yX8_countDark := tsg_in (i := 559) (by decide +kernel) rfl
theorem lm_L_137 : LkM RL 137 yX8_setCurfew := tsg_in (i := 563) (by decide +kernel) rfl
theorem lm_X8_174 : LkM RX8 174 yX5_giveCurfew := tsg_in (i := 583) (by decide +kernel) rfl
theorem lm_X5_94 : LkM RX5 94 yX5_renew := tsg_in (i := 587) (by decide +kernel) rfl
theorem lm_X5_54 : LkM RX5 54 yX5_findHoursShaded := tsg_in (i := 591) (by decide +kernel) rfl
theorem lm_X5_98 : LkM RX5 98 yX5_place := tsg_in (i := 595) (by decide +kernel) rfl
theorem lm_X5_58 : LkM RX5 58 yX5_addUp := tsg_in (i := 596) (by decide +kernel) rfl
theorem lm_X5_101 : LkM RX5 101 yX5_hoursShaded := tsg_in (i := 600) (by decide +kernel) rfl
theorem lm_L_144 : LkM RL 144 yX8_endCurfew := tsg_in (i := 601) (by decide +kernel) rfl
theorem lm_L_147 : LkM RL 147 yX8_build := tsg_in (i := 605) (by decide +kernel) rfl
theorem lm_X8_180 : LkM RX8 180 yX5_giveHeight := tsg_in (i := 610) (by decide +kernel) rfl
theorem lm_L_159 : LkM RL 159 yX8_passDays := tsg_in (i := 614) (by decide +kernel) rfl
theorem lm_X8_191 : LkM RX8 191 yX8_checkDays := tsg_in (i := 618) (by decide +kernel) rfl
theorem lm_X8_194 : LkM RX8 194 yX4_passDay := tsg_in (i := 622) (by decide +kernel) rfl
theorem lm_X4_25 : LkM RX4 25 yX0_lawAt := tsg_in (i := 626) (by decide +kernel) rfl
theorem lm_X4_29 : LkM RX4 29 yX4_carryOut := tsg_in (i := 630) (by decide +kernel) rfl
theorem lm_X4_49 : LkM RX4 49 yX4_reckon := tsg_in (i := 634) (by decide +kernel) rfl
theorem lm_X4_84 : LkM RX4 84 yJ9_max_7cf53 := tsg_in (i := 638) (by decide +kernel) rfl
theorem lm_X4_99 : LkM RX4 99 yX4_leaf := tsg_in (i := 641) (by decide +kernel) rfl
theorem lm_X4_122 : LkM RX4 122 yX5_mostLost := tsg_in (i := 644) (by decide +kernel) rfl
theorem lm_X5_91 : LkM RX5 91 yJ9_max_7cf53 := tsg_in (i := 648) (by decide +kernel) rfl
theorem lm_X4_125 : LkM RX4 125 yX5_lost := tsg_in (i := 649) (by decide +kernel) rfl
theorem lm_X4_128 : LkM RX4 128 yX5_cast := tsg_in (i := 650) (by decide +kernel) rfl
theorem lm_X4_69 : LkM RX4 69 yX5_height := tsg_in (i := 651) (by decide +kernel) rfl
theorem lm_X4_131 : LkM RX4 131 yX5_hoursShaded := tsg_in (i := 652) (by decide +kernel) rfl
theorem lm_X4_118 : LkM RX4 118 yX4_truth := tsg_in (i := 653) (by decide +kernel) rfl
theorem lm_X4_103 : LkM RX4 103 yX4_push := tsg_in (i := 656) (by decide +kernel) rfl
theorem lm_X4_107 : LkM RX4 107 yX4_pop := tsg_in (i := 660) (by decide +kernel) rfl
theorem lm_X4_111 : LkM RX4 111 yX4_sumOf := tsg_in (i := 664) (by decide +kernel) rfl
theorem lm_X4_134 : LkM RX4 134 yJ9_min_7cf53 := tsg_in (i := 667) (by decide +kernel) rfl
theorem lm_X4_115 : LkM RX4 115 yX4_testOf := tsg_in (i := 670) (by decide +kernel) rfl
theorem lm_X4_59 : LkM RX4 59 yX5_giveCurfew := tsg_in (i := 673) (by decide +kernel) rfl
theorem ln_X4_73 : LkN RX4 73 yX8_held := ⟨"ShadowRegistry", nws_in (i := 674) (by decide +kernel) rfl⟩
theorem lm_X8_242 : LkM RX8 242 yJ9_min_f86c9 := tsg_in (i := 677) (by decide +kernel) rfl
theorem lm_X8_246 : LkM RX8 246 yJ9_max_f86c9 := tsg_in (i := 680) (by decide +kernel) rfl
theorem lm_X4_77 : LkM RX4 77 yX5_giveHeight := tsg_in (i := 683) (by decide +kernel) rfl
theorem lm_L_255 : LkM RL 255 yX8_lostAfter := tsg_in (i := 684) (by decide +kernel) rfl
theorem lm_X8_198 : LkM RX8 198 yX5_become := tsg_in (i := 688) (by decide +kernel) rfl
theorem lm_L_246 : LkM RL 246 yX8_daysUntilLight := tsg_in (i := 695) (by decide +kernel) rfl
theorem lm_L_249 : LkM RL 249 yX8_fairCurfew := tsg_in (i := 699) (by decide +kernel) rfl
theorem lm_X8_200 : LkM RX8 200 yX8_checkCurfewHours := tsg_in (i := 703) (by decide +kernel) rfl
theorem lm_L_252 : LkM RL 252 yX8_fairestWall := tsg_in (i := 707) (by decide +kernel) rfl
theorem lm_L_177 : LkM RL 177 yX8_digest := tsg_in (i := 711) (by decide +kernel) rfl
theorem lm_X8_207 : LkM RX8 207 yX8_houses := tsg_in (i := 717) (by decide +kernel) rfl
theorem lm_X8_210 : LkM RX8 210 yX8_laws := tsg_in (i := 718) (by decide +kernel) rfl
theorem lm_X8_213 : LkM RX8 213 yX8_days := tsg_in (i := 722) (by decide +kernel) rfl
theorem lm_X8_216 : LkM RX8 216 yX8_lawsCarriedOut := tsg_in (i := 726) (by decide +kernel) rfl
theorem lm_X8_219 : LkM RX8 219 yX8_allHoursLost := tsg_in (i := 730) (by decide +kernel) rfl
theorem lm_X8_222 : LkM RX8 222 yX8_lightHouses := tsg_in (i := 731) (by decide +kernel) rfl
theorem lm_L_156 : LkM RL 156 yX9_pass := tsg_in (i := 732) (by decide +kernel) rfl
theorem lm_X9_63 : LkM RX9 63 yX10_of := tsg_in (i := 736) (by decide +kernel) rfl
theorem lm_X10_21 : LkM RX10 21 yX9_worst := tsg_in (i := 740) (by decide +kernel) rfl
theorem lm_X9_59 : LkM RX9 59 yX9_lost := tsg_in (i := 744) (by decide +kernel) rfl
theorem lm_X9_53 : LkM RX9 53 yX9_shadedBy := tsg_in (i := 748) (by decide +kernel) rfl
theorem lm_X9_49 : LkM RX9 49 yX9_shades := tsg_in (i := 752) (by decide +kernel) rfl
theorem lm_X9_46 : LkM RX9 46 yX9_reach := tsg_in (i := 756) (by decide +kernel) rfl
theorem lm_X9_42 : LkM RX9 42 yX9_tall := tsg_in (i := 760) (by decide +kernel) rfl
theorem lm_X10_25 : LkM RX10 25 yX9_lost := tsg_in (i := 764) (by decide +kernel) rfl
theorem lm_X10_29 : LkM RX10 29 yX9_cast := tsg_in (i := 765) (by decide +kernel) rfl
theorem lm_X9_56 : LkM RX9 56 yX9_lostTo := tsg_in (i := 769) (by decide +kernel) rfl
theorem lm_X10_40 : LkM RX10 40 yX10_of := tsg_in (i := 773) (by decide +kernel) rfl
theorem lm_X10_47 : LkM RX10 47 yX9_lostTo := tsg_in (i := 774) (by decide +kernel) rfl
theorem lm_X10_54 : LkM RX10 54 yX10_ofTwo := tsg_in (i := 775) (by decide +kernel) rfl
theorem lm_X9_67 : LkM RX9 67 yX9_held := tsg_in (i := 780) (by decide +kernel) rfl
theorem lm_L_258 : LkM RL 258 yX9_isSame := tsg_in (i := 783) (by decide +kernel) rfl
theorem lm_X9_71 : LkM RX9 71 yX8_houses := tsg_in (i := 787) (by decide +kernel) rfl
theorem lm_X9_76 : LkM RX9 76 yX8_laws := tsg_in (i := 788) (by decide +kernel) rfl
theorem lm_X9_78 : LkM RX9 78 yX8_days := tsg_in (i := 789) (by decide +kernel) rfl
theorem lm_X9_80 : LkM RX9 80 yX8_lawsCarriedOut := tsg_in (i := 790) (by decide +kernel) rfl
theorem lm_X9_83 : LkM RX9 83 yX8_allHoursLost := tsg_in (i := 791) (by decide +kernel) rfl
theorem lm_X9_86 : LkM RX9 86 yX9_all := tsg_in (i := 792) (by decide +kernel) rfl
theorem lm_X9_89 : LkM RX9 89 yX8_meanLost := tsg_in (i := 796) (by decide +kernel) rfl
theorem lm_X9_93 : LkM RX9 93 yX9_cast := tsg_in (i := 800) (by decide +kernel) rfl
theorem lm_X9_96 : LkM RX9 96 yX8_placeOf := tsg_in (i := 801) (by decide +kernel) rfl
theorem lm_X9_99 : LkM RX9 99 yX8_heightOf := tsg_in (i := 802) (by decide +kernel) rfl
theorem lm_X9_102 : LkM RX9 102 yX8_hasCurfew := tsg_in (i := 803) (by decide +kernel) rfl
theorem lm_X9_106 : LkM RX9 106 yX8_curfewFrom := tsg_in (i := 804) (by decide +kernel) rfl
theorem lm_X9_109 : LkM RX9 109 yX8_curfewTo := tsg_in (i := 805) (by decide +kernel) rfl
theorem lm_X9_112 : LkM RX9 112 yX8_hoursLost := tsg_in (i := 806) (by decide +kernel) rfl
theorem lm_X9_115 : LkM RX9 115 yX8_castBy := tsg_in (i := 807) (by decide +kernel) rfl
theorem lm_X9_118 : LkM RX9 118 yX8_hoursLostTo := tsg_in (i := 808) (by decide +kernel) rfl
theorem lm_X9_121 : LkM RX9 121 yX8_isInTheDark := tsg_in (i := 809) (by decide +kernel) rfl
theorem lm_X9_125 : LkM RX9 125 yX8_shadedBy := tsg_in (i := 810) (by decide +kernel) rfl
theorem lm_X9_126 : LkM RX9 126 yX8_heightAt := tsg_in (i := 811) (by decide +kernel) rfl
theorem lm_X9_129 : LkM RX9 129 yX8_shadowOf := tsg_in (i := 812) (by decide +kernel) rfl
theorem lm_X9_132 : LkM RX9 132 yX8_shades := tsg_in (i := 813) (by decide +kernel) rfl
theorem lm_X9_133 : LkM RX9 133 yX8_housesInTheDark := tsg_in (i := 814) (by decide +kernel) rfl
theorem lm_X9_136 : LkM RX9 136 yX8_lightHouses := tsg_in (i := 815) (by decide +kernel) rfl
theorem lm_X9_139 : LkM RX9 139 yX8_worstHouse := tsg_in (i := 816) (by decide +kernel) rfl
theorem lm_X9_142 : LkM RX9 142 yX8_darkestWall := tsg_in (i := 817) (by decide +kernel) rfl
theorem lm_L_35 : LkM RL 35 yL_below := tsg_in (i := 818) (by decide +kernel) rfl
theorem lm_L_69 : LkM RL 69 yL_cell := tsg_in (i := 822) (by decide +kernel) rfl
theorem lm_L_167 : LkM RL 167 yL_taught := tsg_in (i := 826) (by decide +kernel) rfl
theorem lm_L_9 : LkM RL 9 yJ0_length_8abf5 := tsg_in (i := 829) (by decide +kernel) rfl
theorem lm_J0_335 : LkM RJ0 335 yJ0_coder_7d493 := tsg_in (i := 833) (by decide +kernel) rfl
theorem lm_L_15 : LkM RL 15 yJ0_charAt_5068e := tsg_in (i := 839) (by decide +kernel) rfl
theorem lm_J0_492 : LkM RJ0 492 yJ0_isLatin1_aae02 := tsg_in (i := 843) (by decide +kernel) rfl
theorem lm_J0_495 : LkM RJ0 495 yJ1_charAt_3b067 := tsg_in (i := 847) (by decide +kernel) rfl
theorem lm_J1_9 : LkM RJ1 9 yJ0_checkIndex_df160 := tsg_in (i := 850) (by decide +kernel) rfl
theorem lm_J0_1059 : LkM RJ0 1059 yJ3_checkIndex_8e157 := tsg_in (i := 855) (by decide +kernel) rfl
theorem lm_J0_498 : LkM RJ0 498 yJ2_charAt_3b067 := tsg_in (i := 858) (by decide +kernel) rfl
theorem lm_J2_67 : LkM RJ2 67 yJ2_checkIndex_2214a := tsg_in (i := 861) (by decide +kernel) rfl
theorem lm_J2_48 : LkM RJ2 48 yJ2_length_9d52b := tsg_in (i := 864) (by decide +kernel) rfl
theorem lm_J2_414 : LkM RJ2 414 yJ0_checkIndex_df160 := tsg_in (i := 867) (by decide +kernel) rfl
theorem lm_J2_71 : LkM RJ2 71 yJ2_getChar_3b067 := tsg_in (i := 868) (by decide +kernel) rfl
theorem lm_L_19 : LkM RL 19 yX8_feed := tsg_in (i := 877) (by decide +kernel) rfl
theorem lm_X8_73 : LkM RX8 73 yX6_append := tsg_in (i := 882) (by decide +kernel) rfl
theorem lm_L_25 : LkM RL 25 yX8_trim := tsg_in (i := 886) (by decide +kernel) rfl
theorem lm_L_29 : LkM RL 29 yX8_teach := tsg_in (i := 891) (by decide +kernel) rfl
theorem lm_X8_82 : LkM RX8 82 yX3_read := tsg_in (i := 895) (by decide +kernel) rfl
theorem lm_X3_35 : LkM RX3 35 yX7_scan := tsg_in (i := 899) (by decide +kernel) rfl
theorem lm_X7_33 : LkM RX7 33 yX7_behindBlanks := tsg_in (i := 903) (by decide +kernel) rfl
theorem lm_X7_49 : LkM RX7 49 yX6_signAt := tsg_in (i := 907) (by decide +kernel) rfl
theorem lm_X7_37 : LkM RX7 37 yX7_scanToken := tsg_in (i := 911) (by decide +kernel) rfl
theorem lm_X7_52 : LkM RX7 52 yX7_put := tsg_in (i := 917) (by decide +kernel) rfl
theorem lm_X7_59 : LkM RX7 59 yX7_isLetter := tsg_in (i := 922) (by decide +kernel) rfl
theorem lm_X7_63 : LkM RX7 63 yX7_scanWord := tsg_in (i := 925) (by decide +kernel) rfl
theorem lm_X7_66 : LkM RX7 66 yX7_isDigit := tsg_in (i := 929) (by decide +kernel) rfl
theorem lm_X7_76 : LkM RX7 76 yX1_lengthened := tsg_in (i := 932) (by decide +kernel) rfl
theorem lm_X7_69 : LkM RX7 69 yX7_scanNumber := tsg_in (i := 940) (by decide +kernel) rfl
theorem lm_X7_72 : LkM RX7 72 yX7_scanSymbol := tsg_in (i := 947) (by decide +kernel) rfl
theorem lm_X7_101 : LkM RX7 101 yX7_symbol := tsg_in (i := 955) (by decide +kernel) rfl
theorem lm_X3_40 : LkM RX3 40 yX0_empty := tsg_in (i := 984) (by decide +kernel) rfl
theorem lm_X3_53 : LkM RX3 53 yX7_startAt := tsg_in (i := 988) (by decide +kernel) rfl
theorem lm_X3_60 : LkM RX3 60 yX7_kindAt := tsg_in (i := 992) (by decide +kernel) rfl
theorem lm_X3_76 : LkM RX3 76 yX3_houseLine := tsg_in (i := 999) (by decide +kernel) rfl
theorem lm_X3_85 : LkM RX3 85 yX3_take := tsg_in (i := 1003) (by decide +kernel) rfl
theorem lm_X3_228 : LkM RX3 228 yX3_fail := tsg_in (i := 1007) (by decide +kernel) rfl
theorem lm_X3_300 : LkM RX3 300 yX7_valueAt := tsg_in (i := 1011) (by decide +kernel) rfl
theorem lm_X3_92 : LkM RX3 92 yX0_houseNamed := tsg_in (i := 1016) (by decide +kernel) rfl
theorem lm_X3_96 : LkM RX3 96 yX3_tell := tsg_in (i := 1020) (by decide +kernel) rfl
theorem lm_X3_111 : LkM RX3 111 yX0_isTaken := tsg_in (i := 1028) (by decide +kernel) rfl
theorem lm_X3_120 : LkM RX3 120 yX0_addHouse := tsg_in (i := 1035) (by decide +kernel) rfl
theorem lm_X3_79 : LkM RX3 79 yX3_lawLine := tsg_in (i := 1039) (by decide +kernel) rfl
theorem lm_X3_130 : LkM RX3 130 yX3_order := tsg_in (i := 1045) (by decide +kernel) rfl
theorem lm_X3_164 : LkM RX3 164 yX3_knownHouse := tsg_in (i := 1051) (by decide +kernel) rfl
theorem lm_X3_174 : LkM RX3 174 yX3_sum := tsg_in (i := 1057) (by decide +kernel) rfl
theorem lm_X3_246 : LkM RX3 246 yX3_product := tsg_in (i := 1061) (by decide +kernel) rfl
theorem lm_X3_255 : LkM RX3 255 yX3_value := tsg_in (i := 1065) (by decide +kernel) rfl
theorem lm_X3_195 : LkM RX3 195 yX0_addStep := tsg_in (i := 1069) (by decide +kernel) rfl
theorem lm_X3_208 : LkM RX3 208 yX3_goesDeeper := tsg_in (i := 1086) (by decide +kernel) rfl
theorem lm_X3_294 : LkM RX3 294 yX3_choice := tsg_in (i := 1096) (by decide +kernel) rfl
theorem lm_X3_142 : LkM RX3 142 yX3_test := tsg_in (i := 1114) (by decide +kernel) rfl
theorem lm_X3_189 : LkM RX3 189 yX3_both := tsg_in (i := 1118) (by decide +kernel) rfl
theorem lm_X3_199 : LkM RX3 199 yX3_single := tsg_in (i := 1122) (by decide +kernel) rfl
theorem lm_X3_224 : LkM RX3 224 yX3_comparisonOp := tsg_in (i := 1134) (by decide +kernel) rfl
theorem lm_X3_149 : LkM RX3 149 yX0_addLaw := tsg_in (i := 1146) (by decide +kernel) rfl
theorem lm_X0_67 : LkM RX0 67 yX2_become := tsg_in (i := 1150) (by decide +kernel) rfl
theorem lm_X8_89 : LkM RX8 89 yX0_become := tsg_in (i := 1155) (by decide +kernel) rfl
theorem lm_X0_48 : LkM RX0 48 yX0_empty := tsg_in (i := 1159) (by decide +kernel) rfl
theorem lm_X0_51 : LkM RX0 51 yX0_addHouse := tsg_in (i := 1160) (by decide +kernel) rfl
theorem lm_X0_55 : LkM RX0 55 yX0_addStep := tsg_in (i := 1161) (by decide +kernel) rfl
theorem lm_X0_59 : LkM RX0 59 yX0_lawAt := tsg_in (i := 1162) (by decide +kernel) rfl
theorem lm_X0_63 : LkM RX0 63 yX0_addLaw := tsg_in (i := 1163) (by decide +kernel) rfl
theorem lm_X8_92 : LkM RX8 92 yX5_beginWith := tsg_in (i := 1164) (by decide +kernel) rfl
theorem ln_X5_39 : LkN RX5 39 yX8_held := ⟨"ShadowRegistry", nws_in (i := 1168) (by decide +kernel) rfl⟩
theorem lm_L_163 : LkM RL 163 yL_told := tsg_in (i := 1169) (by decide +kernel) rfl
theorem ln_L_68 : LkN RL 68 yX9_init := ⟨"ShadowRegistryLaw", nws_in (i := 1174) (by decide +kernel) rfl⟩
theorem lm_L_77 : LkM RL 77 yX9_with := tsg_in (i := 1212) (by decide +kernel) rfl
theorem lm_L_83 : LkM RL 83 yJ4_append_15ec4 := tsg_in (i := 1216) (by decide +kernel) rfl
theorem lm_J4_29 : LkM RJ4 29 yJ5_append_cf1ce := tsg_in (i := 1220) (by decide +kernel) rfl
theorem lm_J5_204 : LkM RJ5 204 yJ5_appendNull_278bc := tsg_in (i := 1224) (by decide +kernel) rfl
theorem lm_J5_100 : LkM RJ5 100 yJ5_ensureCapacityInternal_d00df := tsg_in (i := 1228) (by decide +kernel) rfl
theorem lm_J5_104 : LkM RJ5 104 yJ5_newCapacity_0f7a4 := tsg_in (i := 1232) (by decide +kernel) rfl
theorem lm_J5_114 : LkM RJ5 114 yJ8_newLength_cabcc := tsg_in (i := 1236) (by decide +kernel) rfl
theorem lm_J8_194 : LkM RJ8 194 yJ9_max_7cf53 := tsg_in (i := 1239) (by decide +kernel) rfl
theorem lm_J8_201 : LkM RJ8 201 yJ8_hugeLength_7cf53 := tsg_in (i := 1241) (by decide +kernel) rfl
theorem lm_J5_108 : LkM RJ5 108 yJ7_copyOf_9075b := tsg_in (i := 1245) (by decide +kernel) rfl
theorem lm_J7_304 : LkM RJ7 304 yJ9_min_7cf53 := tsg_in (i := 1255) (by decide +kernel) rfl
theorem lm_J5_83 : LkM RJ5 83 yJ5_isLatin1_aae02 := tsg_in (i := 1257) (by decide +kernel) rfl
theorem lm_J5_226 : LkM RJ5 226 yJ2_putCharsAt_cd4e5 := tsg_in (i := 1263) (by decide +kernel) rfl
theorem lm_J2_96 : LkM RJ2 96 yJ2_checkBoundsBeginEnd_d044e := tsg_in (i := 1266) (by decide +kernel) rfl
theorem lm_J2_241 : LkM RJ2 241 yJ0_checkBoundsBeginEnd_23922 := tsg_in (i := 1269) (by decide +kernel) rfl
theorem lm_J0_1062 : LkM RJ0 1062 yJ3_checkFromToIndex_8c36e := tsg_in (i := 1272) (by decide +kernel) rfl
theorem lm_J2_111 : LkM RJ2 111 yJ2_putChar_b72d1 := tsg_in (i := 1275) (by decide +kernel) rfl
theorem lm_J5_32 : LkM RJ5 32 yJ0_length_8abf5 := tsg_in (i := 1278) (by decide +kernel) rfl
theorem lm_J5_208 : LkM RJ5 208 yJ5_putStringAt_47b60 := tsg_in (i := 1279) (by decide +kernel) rfl
theorem lm_J5_397 : LkM RJ5 397 yJ5_inflateIfNeededFor_a7421 := tsg_in (i := 1283) (by decide +kernel) rfl
theorem lm_J5_40 : LkM RJ5 40 yJ0_coder_7d493 := tsg_in (i := 1287) (by decide +kernel) rfl
theorem lm_J5_195 : LkM RJ5 195 yJ5_inflate_da8c8 := tsg_in (i := 1288) (by decide +kernel) rfl
theorem lm_J5_26 : LkM RJ5 26 yJ2_newBytesFor_77867 := tsg_in (i := 1292) (by decide +kernel) rfl
theorem lm_J2_11 : LkM RJ2 11 yJ2_newBytesLength_0f7a4 := tsg_in (i := 1295) (by decide +kernel) rfl
theorem lm_J5_125 : LkM RJ5 125 yJ1_inflate_0e8fd := tsg_in (i := 1299) (by decide +kernel) rfl
theorem lm_J1_240 : LkM RJ1 240 yJ2_inflate_0e8fd := tsg_in (i := 1302) (by decide +kernel) rfl
theorem lm_J2_173 : LkM RJ2 173 yJ2_checkBoundsOffCount_d044e := tsg_in (i := 1305) (by decide +kernel) rfl
theorem lm_J2_419 : LkM RJ2 419 yJ0_checkBoundsOffCount_cabcc := tsg_in (i := 1308) (by decide +kernel) rfl
theorem lm_J0_1065 : LkM RJ0 1065 yJ3_checkFromIndexSize_8c36e := tsg_in (i := 1311) (by decide +kernel) rfl
theorem lm_J5_399 : LkM RJ5 399 yJ0_getBytes_840e7 := tsg_in (i := 1314) (by decide +kernel) rfl
theorem lm_J0_106 : LkM RJ0 106 yJ1_inflate_0e8fd := tsg_in (i := 1319) (by decide +kernel) rfl
theorem lm_L_89 : LkM RL 89 yJ4_append_bf812 := tsg_in (i := 1320) (by decide +kernel) rfl
theorem lm_J4_53 : LkM RJ4 53 yJ5_append_c97b9 := tsg_in (i := 1324) (by decide +kernel) rfl
theorem lm_J5_245 : LkM RJ5 245 yJ6_stringSize_0f7a4 := tsg_in (i := 1327) (by decide +kernel) rfl
theorem lm_J5_248 : LkM RJ5 248 yJ6_getChars_ba4f3 := tsg_in (i := 1330) (by decide +kernel) rfl
theorem lm_J5_251 : LkM RJ5 251 yJ2_getChars_46870 := tsg_in (i := 1337) (by decide +kernel) rfl
theorem lm_J2_393 : LkM RJ2 393 yJ2_getChars_ba4f3 := tsg_in (i := 1340) (by decide +kernel) rfl
theorem lm_L_49 : LkM RL 49 yL_sum := tsg_in (i := 1349) (by decide +kernel) rfl
theorem ln_L_34 : LkN RL 34 yX10_init := ⟨"ShadowRegistryLaw", nws_in (i := 1352) (by decide +kernel) rfl⟩
theorem lm_L_63 : LkM RL 63 yL_test := tsg_in (i := 1379) (by decide +kernel) rfl
theorem lm_L_121 : LkM RL 121 yX10_text := tsg_in (i := 1387) (by decide +kernel) rfl
theorem lm_X10_95 : LkM RX10 95 yJ4_init_da8c8 := tsg_in (i := 1412) (by decide +kernel) rfl
theorem lm_J4_1 : LkM RJ4 1 yJ5_init_d00df := tsg_in (i := 1415) (by decide +kernel) rfl
theorem lm_X10_96 : LkM RX10 96 yJ4_append_15ec4 := tsg_in (i := 1431) (by decide +kernel) rfl
theorem lm_X10_100 : LkM RX10 100 yJ4_append_bf812 := tsg_in (i := 1432) (by decide +kernel) rfl
theorem lm_X10_103 : LkM RX10 103 yJ4_toString_0e30d := tsg_in (i := 1433) (by decide +kernel) rfl
theorem lm_J4_137 : LkM RJ4 137 yJ0_init_81219 := tsg_in (i := 1439) (by decide +kernel) rfl
theorem lm_J0_489 : LkM RJ0 489 yJ0_init_db425 := tsg_in (i := 1442) (by decide +kernel) rfl
theorem lm_J0_552 : LkM RJ0 552 yJ5_getValue_6d5f1 := tsg_in (i := 1446) (by decide +kernel) rfl
theorem lm_J0_549 : LkM RJ0 549 yJ5_length_8abf5 := tsg_in (i := 1451) (by decide +kernel) rfl
theorem lm_J4_343 : LkM RJ4 343 yJ5_length_8abf5 := tsg_in (i := 1457) (by decide +kernel) rfl
theorem lm_J0_1047 : LkM RJ0 1047 yJ5_isLatin1_aae02 := tsg_in (i := 1459) (by decide +kernel) rfl
theorem lm_J0_54 : LkM RJ0 54 yJ7_copyOfRange_39247 := tsg_in (i := 1460) (by decide +kernel) rfl
theorem lm_J7_339 : LkM RJ7 339 yJ7_copyOfRangeByte_39247 := tsg_in (i := 1463) (by decide +kernel) rfl
theorem lm_J7_343 : LkM RJ7 343 yJ7_checkLength_df160 := tsg_in (i := 1466) (by decide +kernel) rfl
theorem lm_J0_1051 : LkM RJ0 1051 yJ2_compress_39247 := tsg_in (i := 1469) (by decide +kernel) rfl
theorem lm_J2_123 : LkM RJ2 123 yJ2_compress_5af95 := tsg_in (i := 1472) (by decide +kernel) rfl
theorem lm_J2_126 : LkM RJ2 126 yJ7_copyOfRange_39247 := tsg_in (i := 1475) (by decide +kernel) rfl
theorem lm_J0_47 : LkM RJ0 47 yJ2_coderFromArrayLen_85cad := tsg_in (i := 1476) (by decide +kernel) rfl
theorem lm_X10_111 : LkM RX10 111 yX10_text := tsg_in (i := 1492) (by decide +kernel) rfl
theorem lm_L_129 : LkM RL 129 yJ4_init_da8c8 := tsg_in (i := 1507) (by decide +kernel) rfl
theorem lm_L_132 : LkM RL 132 yJ4_toString_0e30d := tsg_in (i := 1509) (by decide +kernel) rfl
theorem lm_L_173 : LkM RL 173 yL_act := tsg_in (i := 1511) (by decide +kernel) rfl
theorem lm_L_141 : LkM RL 141 yX9_all := tsg_in (i := 1514) (by decide +kernel) rfl
theorem lm_L_150 : LkM RL 150 yX8_move := tsg_in (i := 1515) (by decide +kernel) rfl
theorem lm_X8_187 : LkM RX8 187 yX5_givePlace := tsg_in (i := 1521) (by decide +kernel) rfl
theorem lm_L_211 : LkM RL 211 yJ9_abs_0f7a4 := tsg_in (i := 1525) (by decide +kernel) rfl
theorem lm_L_222 : LkM RL 222 yJ9_max_7cf53 := tsg_in (i := 1526) (by decide +kernel) rfl
