theorem lay_X0 : ∀ w ∈ u_ws RX0 TX0 10, w ∈ TSg := by
  intro w hw
  obtain ⟨j, hj, rfl⟩ := List.mem_map.mp hw
  have hj := List.mem_range.mp hj
  match j, hj with
  | 0, _ => exact tsg_in (i := 154) (by decide +kernel) rfl
  | 1, _ => exact tsg_in (i := 156) (by decide +kernel) rfl
  | 2, _ => exact tsg_in (i := 158) (by decide +kernel) rfl
  | 3, _ => exact tsg_in (i := 160) (by decide +kernel) rfl
  | 4, _ => exact tsg_in (i := 162) (by decide +kernel) rfl
  | 5, _ => exact tsg_in (i := 164) (by decide +kernel) rfl
  | 6, _ => exact tsg_in (i := 166) (by decide +kernel) rfl
  | 7, _ => exact tsg_in (i := 168) (by decide +kernel) rfl
  | 8, _ => exact tsg_in (i := 170) (by decide +kernel) rfl
  | 9, _ => exact tsg_in (i := 172) (by decide +kernel) rfl
  | j + 10, h => exact absurd h (by omega)
theorem lay_X2 : ∀ w ∈ u_ws RX2 TX2 6, w ∈ TSg := by
  intro w hw
  obtain ⟨j, hj, rfl⟩ := List.mem_map.mp hw
  have hj := List.mem_range.mp hj
  match j, hj with
  | 0, _ => exact tsg_in (i := 118) (by decide +kernel) rfl
  | 1, _ => exact tsg_in (i := 120) (by decide +kernel) rfl
  | 2, _ => exact tsg_in (i := 122) (by decide +kernel) rfl
  | 3, _ => exact tsg_in (i := 124) (by decide +kernel) rfl
  | 4, _ => exact tsg_in (i := 126) (by decide +kernel) rfl
  | 5, _ => exact tsg_in (i := 128) (by decide +kernel) rfl
  | j + 6, h => exact absurd h (by omega)
theorem lay_X3 : ∀ w ∈ u_ws RX3 TX3 9, w ∈ TSg := by
  intro w hw
  obtain ⟨j, hj, rfl⟩ := List.mem_map.mp hw
  have hj := List.mem_range.mp hj
  match j, hj with
  | 0, _ => exact tsg_in (i := 219) (by decide +kernel) rfl
  | 1, _ => exact tsg_in (i := 221) (by decide +kernel) rfl
  | 2, _ => exact tsg_in (i := 223) (by decide +kernel) rfl
  | 3, _ => exact tsg_in (i := 225) (by decide +kernel) rfl
  | 4, _ => exact tsg_in (i := 227) (by decide +kernel) rfl
  | 5, _ => exact tsg_in (i := 229) (by decide +kernel) rfl
  | 6, _ => exact tsg_in (i := 231) (by decide +kernel) rfl
  | 7, _ => exact tsg_in (i := 233) (by decide +kernel) rfl
  | 8, _ => exact tsg_in (i := 235) (by decide +kernel) rfl
  | j + 9, h => exact absurd h (by omega)
theorem lay_X4 : ∀ w ∈ u_ws RX4 TX4 3, w ∈ TSg := by
  intro w hw
  obtain ⟨j, hj, rfl⟩ := List.mem_map.mp hw
  have hj := List.mem_range.mp hj
  match j, hj with
  | 0, _ => exact tsg_in (i := 247) (by decide +kernel) rfl
  | 1, _ => exact tsg_in (i := 249) (by decide +kernel) rfl
  | 2, _ => exact tsg_in (i := 251) (by decide +kernel) rfl
  | j + 3, h => exact absurd h (by omega)
theorem lay_X5 : ∀ w ∈ u_ws RX5 TX5 11, w ∈ TSg := by
  intro w hw
  obtain ⟨j, hj, rfl⟩ := List.mem_map.mp hw
  have hj := List.mem_range.mp hj
  match j, hj with
  | 0, _ => exact tsg_in (i := 277) (by decide +kernel) rfl
  | 1, _ => exact tsg_in (i := 279) (by decide +kernel) rfl
  | 2, _ => exact tsg_in (i := 281) (by decide +kernel) rfl
  | 3, _ => exact tsg_in (i := 283) (by decide +kernel) rfl
  | 4, _ => exact tsg_in (i := 285) (by decide +kernel) rfl
  | 5, _ => exact tsg_in (i := 287) (by decide +kernel) rfl
  | 6, _ => exact tsg_in (i := 289) (by decide +kernel) rfl
  | 7, _ => exact tsg_in (i := 291) (by decide +kernel) rfl
  | 8, _ => exact tsg_in (i := 293) (by decide +kernel) rfl
  | 9, _ => exact tsg_in (i := 295) (by decide +kernel) rfl
  | 10, _ => exact tsg_in (i := 297) (by decide +kernel) rfl
  | j + 11, h => exact absurd h (by omega)
theorem lay_X6 : ∀ w ∈ u_ws RX6 TX6 2, w ∈ TSg := by
  intro w hw
  obtain ⟨j, hj, rfl⟩ := List.mem_map.mp hw
  have hj := List.mem_range.mp hj
  match j, hj with
  | 0, _ => exact tsg_in (i := 81) (by decide +kernel) rfl
  | 1, _ => exact tsg_in (i := 83) (by decide +kernel) rfl
  | j + 2, h => exact absurd h (by omega)
theorem lay_X7 : ∀ w ∈ u_ws RX7 TX7 5, w ∈ TSg := by
  intro w hw
  obtain ⟨j, hj, rfl⟩ := List.mem_map.mp hw
  have hj := List.mem_range.mp hj
  match j, hj with
  | 0, _ => exact tsg_in (i := 190) (by decide +kernel) rfl
  | 1, _ => exact tsg_in (i := 192) (by decide +kernel) rfl
  | 2, _ => exact tsg_in (i := 194) (by decide +kernel) rfl
  | 3, _ => exact tsg_in (i := 196) (by decide +kernel) rfl
  | 4, _ => exact tsg_in (i := 198) (by decide +kernel) rfl
  | j + 5, h => exact absurd h (by omega)
theorem lay_X8 : ∀ w ∈ u_ws RX8 TX8 8, w ∈ TSg := by
  intro w hw
  obtain ⟨j, hj, rfl⟩ := List.mem_map.mp hw
  have hj := List.mem_range.mp hj
  match j, hj with
  | 0, _ => exact tsg_in (i := 308) (by decide +kernel) rfl
  | 1, _ => exact tsg_in (i := 310) (by decide +kernel) rfl
  | 2, _ => exact tsg_in (i := 312) (by decide +kernel) rfl
  | 3, _ => exact tsg_in (i := 314) (by decide +kernel) rfl
  | 4, _ => exact tsg_in (i := 316) (by decide +kernel) rfl
  | 5, _ => exact tsg_in (i := 318) (by decide +kernel) rfl
  | 6, _ => exact tsg_in (i := 320) (by decide +kernel) rfl
  | 7, _ => exact tsg_in (i := 322) (by decide +kernel) rfl
  | j + 8, h => exact absurd h (by omega)
theorem lay_X9 : ∀ w ∈ u_ws RX9 TX9 7, w ∈ TSg := by
  intro w hw
  obtain ⟨j, hj, rfl⟩ := List.mem_map.mp hw
  have hj := List.mem_range.mp hj
  match j, hj with
  | 0, _ => exact tsg_in (i := 1197) (by decide +kernel) rfl
  | 1, _ => exact tsg_in (i := 1199) (by decide +kernel) rfl
  | 2, _ => exact tsg_in (i := 1201) (by decide +kernel) rfl
  | 3, _ => exact tsg_in (i := 1203) (by decide +kernel) rfl
  | 4, _ => exact tsg_in (i := 1205) (by decide +kernel) rfl
  | 5, _ => exact tsg_in (i := 1207) (by decide +kernel) rfl
  | 6, _ => exact tsg_in (i := 1209) (by decide +kernel) rfl
  | j + 7, h => exact absurd h (by omega)
theorem lay_X10 : ∀ w ∈ u_ws RX10 TX10 5, w ∈ TSg := by
  intro w hw
  obtain ⟨j, hj, rfl⟩ := List.mem_map.mp hw
  have hj := List.mem_range.mp hj
  match j, hj with
  | 0, _ => exact tsg_in (i := 1366) (by decide +kernel) rfl
  | 1, _ => exact tsg_in (i := 1368) (by decide +kernel) rfl
  | 2, _ => exact tsg_in (i := 1370) (by decide +kernel) rfl
  | 3, _ => exact tsg_in (i := 1372) (by decide +kernel) rfl
  | 4, _ => exact tsg_in (i := 1374) (by decide +kernel) rfl
  | j + 5, h => exact absurd h (by omega)
theorem lay_J0 : ∀ w ∈ u_ws RJ0 TJ0 4, w ∈ TSg := by
  intro w hw
  obtain ⟨j, hj, rfl⟩ := List.mem_map.mp hw
  have hj := List.mem_range.mp hj
  match j, hj with
  | 0, _ => exact tsg_in (i := 1481) (by decide +kernel) rfl
  | 1, _ => exact tsg_in (i := 1483) (by decide +kernel) rfl
  | 2, _ => exact tsg_in (i := 1485) (by decide +kernel) rfl
  | 3, _ => exact tsg_in (i := 1487) (by decide +kernel) rfl
  | j + 4, h => exact absurd h (by omega)
theorem lay_J4 : ∀ w ∈ u_ws RJ4 TJ4 4, w ∈ TSg := by
  intro w hw
  obtain ⟨j, hj, rfl⟩ := List.mem_map.mp hw
  have hj := List.mem_range.mp hj
  match j, hj with
  | 0, _ => exact tsg_in (i := 1423) (by decide +kernel) rfl
  | 1, _ => exact tsg_in (i := 1425) (by decide +kernel) rfl
  | 2, _ => exact tsg_in (i := 1427) (by decide +kernel) rfl
  | 3, _ => exact tsg_in (i := 1429) (by decide +kernel) rfl
  | j + 4, h => exact absurd h (by omega)
theorem gf_X6_9 : GF RX6 9 5 0 := ⟨RX6, TX6, 2, rfl, by decide, lay_X6, Or.inl (tsg_in (i := 77) (by decide +kernel) rfl)⟩
theorem pff_X6_9 : PFF RX6 9 5 0 (.array .byte) := ⟨RX6, TX6, 2, tyX6, rfl, by decide, rfl, rfl, lay_X6, tsg_in (i := 77) (by decide +kernel) rfl, tyX6_ok, nmX6, rfl, rfl⟩
theorem gf_X8_63 : GF RX8 63 5 1 := ⟨RX6, TX6, 2, rfl, by decide, lay_X6, Or.inr ⟨"ShadowRegistry", nws_in (i := 78) (by decide +kernel) rfl⟩⟩
theorem pf_X8_63 : PF RX8 63 5 1 .int := ⟨RX6, TX6, 2, tyX6, rfl, by decide, lay_X6, Or.inr ⟨"ShadowRegistry", nws_in (i := 78) (by decide +kernel) rfl⟩, tyX6_ok, nmX6, rfl, rfl⟩
theorem gf_X6_15 : GF RX6 15 5 1 := ⟨RX6, TX6, 2, rfl, by decide, lay_X6, Or.inl (tsg_in (i := 79) (by decide +kernel) rfl)⟩
theorem pf_X6_15 : PF RX6 15 5 1 .int := ⟨RX6, TX6, 2, tyX6, rfl, by decide, lay_X6, Or.inl (tsg_in (i := 79) (by decide +kernel) rfl), tyX6_ok, nmX6, rfl, rfl⟩
theorem gf_X7_44 : GF RX7 44 5 1 := ⟨RX6, TX6, 2, rfl, by decide, lay_X6, Or.inr ⟨"ShadowRegistry", nws_in (i := 80) (by decide +kernel) rfl⟩⟩
theorem pf_X7_44 : PF RX7 44 5 1 .int := ⟨RX6, TX6, 2, tyX6, rfl, by decide, lay_X6, Or.inr ⟨"ShadowRegistry", nws_in (i := 80) (by decide +kernel) rfl⟩, tyX6_ok, nmX6, rfl, rfl⟩
theorem gf_X2_7 : GF RX2 7 1 0 := ⟨RX2, TX2, 6, rfl, by decide, lay_X2, Or.inl (tsg_in (i := 100) (by decide +kernel) rfl)⟩
theorem pf_X2_7 : PF RX2 7 1 0 .int := ⟨RX2, TX2, 6, tyX2, rfl, by decide, lay_X2, Or.inl (tsg_in (i := 100) (by decide +kernel) rfl), tyX2_ok, nmX2, rfl, rfl⟩
theorem gf_X4_53 : GF RX4 53 1 0 := ⟨RX2, TX2, 6, rfl, by decide, lay_X2, Or.inr ⟨"ShadowRegistry", nws_in (i := 101) (by decide +kernel) rfl⟩⟩
theorem pf_X4_53 : PF RX4 53 1 0 .int := ⟨RX2, TX2, 6, tyX2, rfl, by decide, lay_X2, Or.inr ⟨"ShadowRegistry", nws_in (i := 101) (by decide +kernel) rfl⟩, tyX2_ok, nmX2, rfl, rfl⟩
theorem gf_X3_162 : GF RX3 162 1 0 := ⟨RX2, TX2, 6, rfl, by decide, lay_X2, Or.inr ⟨"ShadowRegistry", nws_in (i := 102) (by decide +kernel) rfl⟩⟩
theorem pf_X3_162 : PF RX3 162 1 0 .int := ⟨RX2, TX2, 6, tyX2, rfl, by decide, lay_X2, Or.inr ⟨"ShadowRegistry", nws_in (i := 102) (by decide +kernel) rfl⟩, tyX2_ok, nmX2, rfl, rfl⟩
theorem gf_X2_13 : GF RX2 13 1 1 := ⟨RX2, TX2, 6, rfl, by decide, lay_X2, Or.inl (tsg_in (i := 103) (by decide +kernel) rfl)⟩
theorem pf_X2_13 : PF RX2 13 1 1 .int := ⟨RX2, TX2, 6, tyX2, rfl, by decide, lay_X2, Or.inl (tsg_in (i := 103) (by decide +kernel) rfl), tyX2_ok, nmX2, rfl, rfl⟩
theorem gf_X4_56 : GF RX4 56 1 1 := ⟨RX2, TX2, 6, rfl, by decide, lay_X2, Or.inr ⟨"ShadowRegistry", nws_in (i := 104) (by decide +kernel) rfl⟩⟩
theorem pf_X4_56 : PF RX4 56 1 1 .int := ⟨RX2, TX2, 6, tyX2, rfl, by decide, lay_X2, Or.inr ⟨"ShadowRegistry", nws_in (i := 104) (by decide +kernel) rfl⟩, tyX2_ok, nmX2, rfl, rfl⟩
theorem gf_X3_168 : GF RX3 168 1 1 := ⟨RX2, TX2, 6, rfl, by decide, lay_X2, Or.inr ⟨"ShadowRegistry", nws_in (i := 105) (by decide +kernel) rfl⟩⟩
theorem pf_X3_168 : PF RX3 168 1 1 .int := ⟨RX2, TX2, 6, tyX2, rfl, by decide, lay_X2, Or.inr ⟨"ShadowRegistry", nws_in (i := 105) (by decide +kernel) rfl⟩, tyX2_ok, nmX2, rfl, rfl⟩
theorem gf_X2_16 : GF RX2 16 1 2 := ⟨RX2, TX2, 6, rfl, by decide, lay_X2, Or.inl (tsg_in (i := 106) (by decide +kernel) rfl)⟩
theorem pf_X2_16 : PF RX2 16 1 2 .int := ⟨RX2, TX2, 6, tyX2, rfl, by decide, lay_X2, Or.inl (tsg_in (i := 106) (by decide +kernel) rfl), tyX2_ok, nmX2, rfl, rfl⟩
theorem gf_X4_63 : GF RX4 63 1 2 := ⟨RX2, TX2, 6, rfl, by decide, lay_X2, Or.inr ⟨"ShadowRegistry", nws_in (i := 107) (by decide +kernel) rfl⟩⟩
theorem pf_X4_63 : PF RX4 63 1 2 .int := ⟨RX2, TX2, 6, tyX2, rfl, by decide, lay_X2, Or.inr ⟨"ShadowRegistry", nws_in (i := 107) (by decide +kernel) rfl⟩, tyX2_ok, nmX2, rfl, rfl⟩
theorem gf_X3_153 : GF RX3 153 1 2 := ⟨RX2, TX2, 6, rfl, by decide, lay_X2, Or.inr ⟨"ShadowRegistry", nws_in (i := 108) (by decide +kernel) rfl⟩⟩
theorem pf_X3_153 : PF RX3 153 1 2 .int := ⟨RX2, TX2, 6, tyX2, rfl, by decide, lay_X2, Or.inr ⟨"ShadowRegistry", nws_in (i := 108) (by decide +kernel) rfl⟩, tyX2_ok, nmX2, rfl, rfl⟩
theorem gf_X2_19 : GF RX2 19 1 3 := ⟨RX2, TX2, 6, rfl, by decide, lay_X2, Or.inl (tsg_in (i := 109) (by decide +kernel) rfl)⟩
theorem pf_X2_19 : PF RX2 19 1 3 .int := ⟨RX2, TX2, 6, tyX2, rfl, by decide, lay_X2, Or.inl (tsg_in (i := 109) (by decide +kernel) rfl), tyX2_ok, nmX2, rfl, rfl⟩
theorem gf_X4_66 : GF RX4 66 1 3 := ⟨RX2, TX2, 6, rfl, by decide, lay_X2, Or.inr ⟨"ShadowRegistry", nws_in (i := 110) (by decide +kernel) rfl⟩⟩
theorem pf_X4_66 : PF RX4 66 1 3 .int := ⟨RX2, TX2, 6, tyX2, rfl, by decide, lay_X2, Or.inr ⟨"ShadowRegistry", nws_in (i := 110) (by decide +kernel) rfl⟩, tyX2_ok, nmX2, rfl, rfl⟩
theorem gf_X3_156 : GF RX3 156 1 3 := ⟨RX2, TX2, 6, rfl, by decide, lay_X2, Or.inr ⟨"ShadowRegistry", nws_in (i := 111) (by decide +kernel) rfl⟩⟩
theorem pf_X3_156 : PF RX3 156 1 3 .int := ⟨RX2, TX2, 6, tyX2, rfl, by decide, lay_X2, Or.inr ⟨"ShadowRegistry", nws_in (i := 111) (by decide +kernel) rfl⟩, tyX2_ok, nmX2, rfl, rfl⟩
theorem gf_X2_22 : GF RX2 22 1 4 := ⟨RX2, TX2, 6, rfl, by decide, lay_X2, Or.inl (tsg_in (i := 112) (by decide +kernel) rfl)⟩
theorem pf_X2_22 : PF RX2 22 1 4 .int := ⟨RX2, TX2, 6, tyX2, rfl, by decide, lay_X2, Or.inl (tsg_in (i := 112) (by decide +kernel) rfl), tyX2_ok, nmX2, rfl, rfl⟩
theorem gf_X4_41 : GF RX4 41 1 4 := ⟨RX2, TX2, 6, rfl, by decide, lay_X2, Or.inr ⟨"ShadowRegistry", nws_in (i := 113) (by decide +kernel) rfl⟩⟩
theorem pf_X4_41 : PF RX4 41 1 4 .int := ⟨RX2, TX2, 6, tyX2, rfl, by decide, lay_X2, Or.inr ⟨"ShadowRegistry", nws_in (i := 113) (by decide +kernel) rfl⟩, tyX2_ok, nmX2, rfl, rfl⟩
theorem gf_X3_136 : GF RX3 136 1 4 := ⟨RX2, TX2, 6, rfl, by decide, lay_X2, Or.inr ⟨"ShadowRegistry", nws_in (i := 114) (by decide +kernel) rfl⟩⟩
theorem pf_X3_136 : PF RX3 136 1 4 .int := ⟨RX2, TX2, 6, tyX2, rfl, by decide, lay_X2, Or.inr ⟨"ShadowRegistry", nws_in (i := 114) (by decide +kernel) rfl⟩, tyX2_ok, nmX2, rfl, rfl⟩
theorem gf_X2_25 : GF RX2 25 1 5 := ⟨RX2, TX2, 6, rfl, by decide, lay_X2, Or.inl (tsg_in (i := 115) (by decide +kernel) rfl)⟩
theorem pf_X2_25 : PF RX2 25 1 5 .int := ⟨RX2, TX2, 6, tyX2, rfl, by decide, lay_X2, Or.inl (tsg_in (i := 115) (by decide +kernel) rfl), tyX2_ok, nmX2, rfl, rfl⟩
theorem gf_X4_46 : GF RX4 46 1 5 := ⟨RX2, TX2, 6, rfl, by decide, lay_X2, Or.inr ⟨"ShadowRegistry", nws_in (i := 116) (by decide +kernel) rfl⟩⟩
theorem pf_X4_46 : PF RX4 46 1 5 .int := ⟨RX2, TX2, 6, tyX2, rfl, by decide, lay_X2, Or.inr ⟨"ShadowRegistry", nws_in (i := 116) (by decide +kernel) rfl⟩, tyX2_ok, nmX2, rfl, rfl⟩
theorem gf_X3_146 : GF RX3 146 1 5 := ⟨RX2, TX2, 6, rfl, by decide, lay_X2, Or.inr ⟨"ShadowRegistry", nws_in (i := 117) (by decide +kernel) rfl⟩⟩
theorem pf_X3_146 : PF RX3 146 1 5 .int := ⟨RX2, TX2, 6, tyX2, rfl, by decide, lay_X2, Or.inr ⟨"ShadowRegistry", nws_in (i := 117) (by decide +kernel) rfl⟩, tyX2_ok, nmX2, rfl, rfl⟩
theorem gf_X0_9 : GF RX0 9 0 0 := ⟨RX0, TX0, 10, rfl, by decide, lay_X0, Or.inl (tsg_in (i := 133) (by decide +kernel) rfl)⟩
theorem pff_X0_9 : PFF RX0 9 0 0 (.array .long) := ⟨RX0, TX0, 10, tyX0, rfl, by decide, rfl, rfl, lay_X0, tsg_in (i := 133) (by decide +kernel) rfl, tyX0_ok, nmX0, rfl, rfl⟩
theorem gf_X0_15 : GF RX0 15 0 1 := ⟨RX0, TX0, 10, rfl, by decide, lay_X0, Or.inl (tsg_in (i := 134) (by decide +kernel) rfl)⟩
theorem pff_X0_15 : PFF RX0 15 0 1 (.array .int) := ⟨RX0, TX0, 10, tyX0, rfl, by decide, rfl, rfl, lay_X0, tsg_in (i := 134) (by decide +kernel) rfl, tyX0_ok, nmX0, rfl, rfl⟩
theorem gf_X5_52 : GF RX5 52 0 1 := ⟨RX0, TX0, 10, rfl, by decide, lay_X0, Or.inr ⟨"ShadowRegistry", nws_in (i := 135) (by decide +kernel) rfl⟩⟩
theorem gf_X0_19 : GF RX0 19 0 2 := ⟨RX0, TX0, 10, rfl, by decide, lay_X0, Or.inl (tsg_in (i := 136) (by decide +kernel) rfl)⟩
theorem pff_X0_19 : PFF RX0 19 0 2 (.array .int) := ⟨RX0, TX0, 10, tyX0, rfl, by decide, rfl, rfl, lay_X0, tsg_in (i := 136) (by decide +kernel) rfl, tyX0_ok, nmX0, rfl, rfl⟩
theorem gf_X5_53 : GF RX5 53 0 2 := ⟨RX0, TX0, 10, rfl, by decide, lay_X0, Or.inr ⟨"ShadowRegistry", nws_in (i := 137) (by decide +kernel) rfl⟩⟩
theorem gf_X0_38 : GF RX0 38 0 3 := ⟨RX0, TX0, 10, rfl, by decide, lay_X0, Or.inl (tsg_in (i := 138) (by decide +kernel) rfl)⟩
theorem pf_X0_38 : PF RX0 38 0 3 .int := ⟨RX0, TX0, 10, tyX0, rfl, by decide, lay_X0, Or.inl (tsg_in (i := 138) (by decide +kernel) rfl), tyX0_ok, nmX0, rfl, rfl⟩
theorem gf_X5_33 : GF RX5 33 0 3 := ⟨RX0, TX0, 10, rfl, by decide, lay_X0, Or.inr ⟨"ShadowRegistry", nws_in (i := 139) (by decide +kernel) rfl⟩⟩
theorem pf_X5_33 : PF RX5 33 0 3 .int := ⟨RX0, TX0, 10, tyX0, rfl, by decide, lay_X0, Or.inr ⟨"ShadowRegistry", nws_in (i := 139) (by decide +kernel) rfl⟩, tyX0_ok, nmX0, rfl, rfl⟩
theorem gf_X3_100 : GF RX3 100 0 3 := ⟨RX0, TX0, 10, rfl, by decide, lay_X0, Or.inr ⟨"ShadowRegistry", nws_in (i := 140) (by decide +kernel) rfl⟩⟩
theorem pf_X3_100 : PF RX3 100 0 3 .int := ⟨RX0, TX0, 10, tyX0, rfl, by decide, lay_X0, Or.inr ⟨"ShadowRegistry", nws_in (i := 140) (by decide +kernel) rfl⟩, tyX0_ok, nmX0, rfl, rfl⟩
theorem gf_X0_24 : GF RX0 24 0 4 := ⟨RX0, TX0, 10, rfl, by decide, lay_X0, Or.inl (tsg_in (i := 141) (by decide +kernel) rfl)⟩
theorem pff_X0_24 : PFF RX0 24 0 4 (.array (.object "ShadowRegistry$Law")) := ⟨RX0, TX0, 10, tyX0, rfl, by decide, rfl, rfl, lay_X0, tsg_in (i := 141) (by decide +kernel) rfl, tyX0_ok, nmX0, rfl, rfl⟩
theorem gf_X0_42 : GF RX0 42 0 5 := ⟨RX0, TX0, 10, rfl, by decide, lay_X0, Or.inl (tsg_in (i := 142) (by decide +kernel) rfl)⟩
theorem pf_X0_42 : PF RX0 42 0 5 .int := ⟨RX0, TX0, 10, tyX0, rfl, by decide, lay_X0, Or.inl (tsg_in (i := 142) (by decide +kernel) rfl), tyX0_ok, nmX0, rfl, rfl⟩
theorem gf_X4_19 : GF RX4 19 0 5 := ⟨RX0, TX0, 10, rfl, by decide, lay_X0, Or.inr ⟨"ShadowRegistry", nws_in (i := 143) (by decide +kernel) rfl⟩⟩
theorem pf_X4_19 : PF RX4 19 0 5 .int := ⟨RX0, TX0, 10, tyX0, rfl, by decide, lay_X0, Or.inr ⟨"ShadowRegistry", nws_in (i := 143) (by decide +kernel) rfl⟩, tyX0_ok, nmX0, rfl, rfl⟩
theorem gf_X3_127 : GF RX3 127 0 5 := ⟨RX0, TX0, 10, rfl, by decide, lay_X0, Or.inr ⟨"ShadowRegistry", nws_in (i := 144) (by decide +kernel) rfl⟩⟩
theorem pf_X3_127 : PF RX3 127 0 5 .int := ⟨RX0, TX0, 10, tyX0, rfl, by decide, lay_X0, Or.inr ⟨"ShadowRegistry", nws_in (i := 144) (by decide +kernel) rfl⟩, tyX0_ok, nmX0, rfl, rfl⟩
theorem gf_X8_98 : GF RX8 98 0 5 := ⟨RX0, TX0, 10, rfl, by decide, lay_X0, Or.inr ⟨"ShadowRegistry", nws_in (i := 145) (by decide +kernel) rfl⟩⟩
theorem pf_X8_98 : PF RX8 98 0 5 .int := ⟨RX0, TX0, 10, tyX0, rfl, by decide, lay_X0, Or.inr ⟨"ShadowRegistry", nws_in (i := 145) (by decide +kernel) rfl⟩, tyX0_ok, nmX0, rfl, rfl⟩
theorem gf_X0_28 : GF RX0 28 0 6 := ⟨RX0, TX0, 10, rfl, by decide, lay_X0, Or.inl (tsg_in (i := 146) (by decide +kernel) rfl)⟩
theorem pff_X0_28 : PFF RX0 28 0 6 (.array .int) := ⟨RX0, TX0, 10, tyX0, rfl, by decide, rfl, rfl, lay_X0, tsg_in (i := 146) (by decide +kernel) rfl, tyX0_ok, nmX0, rfl, rfl⟩
theorem gf_X4_90 : GF RX4 90 0 6 := ⟨RX0, TX0, 10, rfl, by decide, lay_X0, Or.inr ⟨"ShadowRegistry", nws_in (i := 147) (by decide +kernel) rfl⟩⟩
theorem gf_X0_31 : GF RX0 31 0 7 := ⟨RX0, TX0, 10, rfl, by decide, lay_X0, Or.inl (tsg_in (i := 148) (by decide +kernel) rfl)⟩
theorem pff_X0_31 : PFF RX0 31 0 7 (.array .int) := ⟨RX0, TX0, 10, tyX0, rfl, by decide, rfl, rfl, lay_X0, tsg_in (i := 148) (by decide +kernel) rfl, tyX0_ok, nmX0, rfl, rfl⟩
theorem gf_X4_93 : GF RX4 93 0 7 := ⟨RX0, TX0, 10, rfl, by decide, lay_X0, Or.inr ⟨"ShadowRegistry", nws_in (i := 149) (by decide +kernel) rfl⟩⟩
theorem gf_X0_34 : GF RX0 34 0 8 := ⟨RX0, TX0, 10, rfl, by decide, lay_X0, Or.inl (tsg_in (i := 150) (by decide +kernel) rfl)⟩
theorem pff_X0_34 : PFF RX0 34 0 8 (.array .int) := ⟨RX0, TX0, 10, tyX0, rfl, by decide, rfl, rfl, lay_X0, tsg_in (i := 150) (by decide +kernel) rfl, tyX0_ok, nmX0, rfl, rfl⟩
theorem gf_X4_96 : GF RX4 96 0 8 := ⟨RX0, TX0, 10, rfl, by decide, lay_X0, Or.inr ⟨"ShadowRegistry", nws_in (i := 151) (by decide +kernel) rfl⟩⟩
theorem gf_X0_45 : GF RX0 45 0 9 := ⟨RX0, TX0, 10, rfl, by decide, lay_X0, Or.inl (tsg_in (i := 152) (by decide +kernel) rfl)⟩
theorem pf_X0_45 : PF RX0 45 0 9 .int := ⟨RX0, TX0, 10, tyX0, rfl, by decide, lay_X0, Or.inl (tsg_in (i := 152) (by decide +kernel) rfl), tyX0_ok, nmX0, rfl, rfl⟩
theorem gf_X3_133 : GF RX3 133 0 9 := ⟨RX0, TX0, 10, rfl, by decide, lay_X0, Or.inr ⟨"ShadowRegistry", nws_in (i := 153) (by decide +kernel) rfl⟩⟩
theorem pf_X3_133 : PF RX3 133 0 9 .int := ⟨RX0, TX0, 10, tyX0, rfl, by decide, lay_X0, Or.inr ⟨"ShadowRegistry", nws_in (i := 153) (by decide +kernel) rfl⟩, tyX0_ok, nmX0, rfl, rfl⟩
theorem gf_X7_25 : GF RX7 25 6 0 := ⟨RX7, TX7, 5, rfl, by decide, lay_X7, Or.inl (tsg_in (i := 185) (by decide +kernel) rfl)⟩
theorem pff_X7_25 : PFF RX7 25 6 0 (.object "ShadowRegistry$Tape") := ⟨RX7, TX7, 5, tyX7, rfl, by decide, rfl, rfl, lay_X7, tsg_in (i := 185) (by decide +kernel) rfl, tyX7_ok, nmX7, rfl, rfl⟩
theorem gf_X7_11 : GF RX7 11 6 1 := ⟨RX7, TX7, 5, rfl, by decide, lay_X7, Or.inl (tsg_in (i := 186) (by decide +kernel) rfl)⟩
theorem pff_X7_11 : PFF RX7 11 6 1 (.array (.object "ShadowRegistry$Kind")) := ⟨RX7, TX7, 5, tyX7, rfl, by decide, rfl, rfl, lay_X7, tsg_in (i := 186) (by decide +kernel) rfl, tyX7_ok, nmX7, rfl, rfl⟩
theorem gf_X7_17 : GF RX7 17 6 2 := ⟨RX7, TX7, 5, rfl, by decide, lay_X7, Or.inl (tsg_in (i := 187) (by decide +kernel) rfl)⟩
theorem pff_X7_17 : PFF RX7 17 6 2 (.array .int) := ⟨RX7, TX7, 5, tyX7, rfl, by decide, rfl, rfl, lay_X7, tsg_in (i := 187) (by decide +kernel) rfl, tyX7_ok, nmX7, rfl, rfl⟩
theorem gf_X7_21 : GF RX7 21 6 3 := ⟨RX7, TX7, 5, rfl, by decide, lay_X7, Or.inl (tsg_in (i := 188) (by decide +kernel) rfl)⟩
theorem pff_X7_21 : PFF RX7 21 6 3 (.array .long) := ⟨RX7, TX7, 5, tyX7, rfl, by decide, rfl, rfl, lay_X7, tsg_in (i := 188) (by decide +kernel) rfl, tyX7_ok, nmX7, rfl, rfl⟩
theorem gf_X7_29 : GF RX7 29 6 4 := ⟨RX7, TX7, 5, rfl, by decide, lay_X7, Or.inl (tsg_in (i := 189) (by decide +kernel) rfl)⟩
theorem pf_X7_29 : PF RX7 29 6 4 .int := ⟨RX7, TX7, 5, tyX7, rfl, by decide, lay_X7, Or.inl (tsg_in (i := 189) (by decide +kernel) rfl), tyX7_ok, nmX7, rfl, rfl⟩
theorem kf_X3_18 : KF RX3 18 42 := ⟨by decide, tsg_in (i := 207) (by decide +kernel) rfl⟩
theorem gf_X3_27 : GF RX3 27 2 0 := ⟨RX3, TX3, 9, rfl, by decide, lay_X3, Or.inl (tsg_in (i := 209) (by decide +kernel) rfl)⟩
theorem pff_X3_27 : PFF RX3 27 2 0 (.object "ShadowRegistry$Tokens") := ⟨RX3, TX3, 9, tyX3, rfl, by decide, rfl, rfl, lay_X3, tsg_in (i := 209) (by decide +kernel) rfl, tyX3_ok, nmX3, rfl, rfl⟩
theorem gf_X3_31 : GF RX3 31 2 1 := ⟨RX3, TX3, 9, rfl, by decide, lay_X3, Or.inl (tsg_in (i := 210) (by decide +kernel) rfl)⟩
theorem pff_X3_31 : PFF RX3 31 2 1 (.object "ShadowRegistry$Book") := ⟨RX3, TX3, 9, tyX3, rfl, by decide, rfl, rfl, lay_X3, tsg_in (i := 210) (by decide +kernel) rfl, tyX3_ok, nmX3, rfl, rfl⟩
theorem gf_X3_12 : GF RX3 12 2 2 := ⟨RX3, TX3, 9, rfl, by decide, lay_X3, Or.inl (tsg_in (i := 211) (by decide +kernel) rfl)⟩
theorem pff_X3_12 : PFF RX3 12 2 2 (.object "ShadowRegistry$Law") := ⟨RX3, TX3, 9, tyX3, rfl, by decide, rfl, rfl, lay_X3, tsg_in (i := 211) (by decide +kernel) rfl, tyX3_ok, nmX3, rfl, rfl⟩
theorem gf_X3_49 : GF RX3 49 2 3 := ⟨RX3, TX3, 9, rfl, by decide, lay_X3, Or.inl (tsg_in (i := 212) (by decide +kernel) rfl)⟩
theorem pf_X3_49 : PF RX3 49 2 3 .int := ⟨RX3, TX3, 9, tyX3, rfl, by decide, lay_X3, Or.inl (tsg_in (i := 212) (by decide +kernel) rfl), tyX3_ok, nmX3, rfl, rfl⟩
theorem gf_X3_57 : GF RX3 57 2 4 := ⟨RX3, TX3, 9, rfl, by decide, lay_X3, Or.inl (tsg_in (i := 213) (by decide +kernel) rfl)⟩
theorem pf_X3_57 : PF RX3 57 2 4 .int := ⟨RX3, TX3, 9, tyX3, rfl, by decide, lay_X3, Or.inl (tsg_in (i := 213) (by decide +kernel) rfl), tyX3_ok, nmX3, rfl, rfl⟩
theorem gf_X3_24 : GF RX3 24 2 5 := ⟨RX3, TX3, 9, rfl, by decide, lay_X3, Or.inl (tsg_in (i := 214) (by decide +kernel) rfl)⟩
theorem pf_X3_24 : PF RX3 24 2 5 (.object "ShadowRegistry$Kind") := ⟨RX3, TX3, 9, tyX3, rfl, by decide, lay_X3, Or.inl (tsg_in (i := 214) (by decide +kernel) rfl), tyX3_ok, nmX3, rfl, rfl⟩
theorem gf_X3_45 : GF RX3 45 2 6 := ⟨RX3, TX3, 9, rfl, by decide, lay_X3, Or.inl (tsg_in (i := 215) (by decide +kernel) rfl)⟩
theorem pf_X3_45 : PF RX3 45 2 6 .boolean := ⟨RX3, TX3, 9, tyX3, rfl, by decide, lay_X3, Or.inl (tsg_in (i := 215) (by decide +kernel) rfl), tyX3_ok, nmX3, rfl, rfl⟩
theorem gf_X3_64 : GF RX3 64 2 7 := ⟨RX3, TX3, 9, rfl, by decide, lay_X3, Or.inl (tsg_in (i := 216) (by decide +kernel) rfl)⟩
theorem pf_X3_64 : PF RX3 64 2 7 .int := ⟨RX3, TX3, 9, tyX3, rfl, by decide, lay_X3, Or.inl (tsg_in (i := 216) (by decide +kernel) rfl), tyX3_ok, nmX3, rfl, rfl⟩
theorem gf_X3_67 : GF RX3 67 2 8 := ⟨RX3, TX3, 9, rfl, by decide, lay_X3, Or.inl (tsg_in (i := 217) (by decide +kernel) rfl)⟩
theorem pf_X3_67 : PF RX3 67 2 8 .int := ⟨RX3, TX3, 9, tyX3, rfl, by decide, lay_X3, Or.inl (tsg_in (i := 217) (by decide +kernel) rfl), tyX3_ok, nmX3, rfl, rfl⟩
theorem gf_X8_86 : GF RX8 86 2 8 := ⟨RX3, TX3, 9, rfl, by decide, lay_X3, Or.inr ⟨"ShadowRegistry", nws_in (i := 218) (by decide +kernel) rfl⟩⟩
theorem pf_X8_86 : PF RX8 86 2 8 .int := ⟨RX3, TX3, 9, tyX3, rfl, by decide, lay_X3, Or.inr ⟨"ShadowRegistry", nws_in (i := 218) (by decide +kernel) rfl⟩, tyX3_ok, nmX3, rfl, rfl⟩
theorem gf_X4_15 : GF RX4 15 3 0 := ⟨RX4, TX4, 3, rfl, by decide, lay_X4, Or.inl (tsg_in (i := 244) (by decide +kernel) rfl)⟩
theorem pff_X4_15 : PFF RX4 15 3 0 (.object "ShadowRegistry$Book") := ⟨RX4, TX4, 3, tyX4, rfl, by decide, rfl, rfl, lay_X4, tsg_in (i := 244) (by decide +kernel) rfl, tyX4_ok, nmX4, rfl, rfl⟩
theorem gf_X4_9 : GF RX4 9 3 1 := ⟨RX4, TX4, 3, rfl, by decide, lay_X4, Or.inl (tsg_in (i := 245) (by decide +kernel) rfl)⟩
theorem pff_X4_9 : PFF RX4 9 3 1 (.array .int) := ⟨RX4, TX4, 3, tyX4, rfl, by decide, rfl, rfl, lay_X4, tsg_in (i := 245) (by decide +kernel) rfl, tyX4_ok, nmX4, rfl, rfl⟩
theorem gf_X4_81 : GF RX4 81 3 2 := ⟨RX4, TX4, 3, rfl, by decide, lay_X4, Or.inl (tsg_in (i := 246) (by decide +kernel) rfl)⟩
theorem pf_X4_81 : PF RX4 81 3 2 .int := ⟨RX4, TX4, 3, tyX4, rfl, by decide, lay_X4, Or.inl (tsg_in (i := 246) (by decide +kernel) rfl), tyX4_ok, nmX4, rfl, rfl⟩
theorem gf_X5_43 : GF RX5 43 4 0 := ⟨RX5, TX5, 11, rfl, by decide, lay_X5, Or.inl (tsg_in (i := 260) (by decide +kernel) rfl)⟩
theorem pf_X5_43 : PF RX5 43 4 0 .int := ⟨RX5, TX5, 11, tyX5, rfl, by decide, lay_X5, Or.inl (tsg_in (i := 260) (by decide +kernel) rfl), tyX5_ok, nmX5, rfl, rfl⟩
theorem gf_X8_95 : GF RX8 95 4 0 := ⟨RX5, TX5, 11, rfl, by decide, lay_X5, Or.inr ⟨"ShadowRegistry", nws_in (i := 261) (by decide +kernel) rfl⟩⟩
theorem pf_X8_95 : PF RX8 95 4 0 .int := ⟨RX5, TX5, 11, tyX5, rfl, by decide, lay_X5, Or.inr ⟨"ShadowRegistry", nws_in (i := 261) (by decide +kernel) rfl⟩, tyX5_ok, nmX5, rfl, rfl⟩
theorem gf_X5_46 : GF RX5 46 4 1 := ⟨RX5, TX5, 11, rfl, by decide, lay_X5, Or.inl (tsg_in (i := 262) (by decide +kernel) rfl)⟩
theorem pf_X5_46 : PF RX5 46 4 1 .int := ⟨RX5, TX5, 11, tyX5, rfl, by decide, lay_X5, Or.inl (tsg_in (i := 262) (by decide +kernel) rfl), tyX5_ok, nmX5, rfl, rfl⟩
theorem gf_X4_38 : GF RX4 38 4 1 := ⟨RX5, TX5, 11, rfl, by decide, lay_X5, Or.inr ⟨"ShadowRegistry", nws_in (i := 263) (by decide +kernel) rfl⟩⟩
theorem pf_X4_38 : PF RX4 38 4 1 .int := ⟨RX5, TX5, 11, tyX5, rfl, by decide, lay_X5, Or.inr ⟨"ShadowRegistry", nws_in (i := 263) (by decide +kernel) rfl⟩, tyX5_ok, nmX5, rfl, rfl⟩
theorem gf_X8_101 : GF RX8 101 4 1 := ⟨RX5, TX5, 11, rfl, by decide, lay_X5, Or.inr ⟨"ShadowRegistry", nws_in (i := 264) (by decide +kernel) rfl⟩⟩
theorem pf_X8_101 : PF RX8 101 4 1 .int := ⟨RX5, TX5, 11, tyX5, rfl, by decide, lay_X5, Or.inr ⟨"ShadowRegistry", nws_in (i := 264) (by decide +kernel) rfl⟩, tyX5_ok, nmX5, rfl, rfl⟩
theorem gf_X5_49 : GF RX5 49 4 2 := ⟨RX5, TX5, 11, rfl, by decide, lay_X5, Or.inl (tsg_in (i := 265) (by decide +kernel) rfl)⟩
theorem pf_X5_49 : PF RX5 49 4 2 .int := ⟨RX5, TX5, 11, tyX5, rfl, by decide, lay_X5, Or.inl (tsg_in (i := 265) (by decide +kernel) rfl), tyX5_ok, nmX5, rfl, rfl⟩
theorem gf_X4_33 : GF RX4 33 4 2 := ⟨RX5, TX5, 11, rfl, by decide, lay_X5, Or.inr ⟨"ShadowRegistry", nws_in (i := 266) (by decide +kernel) rfl⟩⟩
theorem pf_X4_33 : PF RX4 33 4 2 .int := ⟨RX5, TX5, 11, tyX5, rfl, by decide, lay_X5, Or.inr ⟨"ShadowRegistry", nws_in (i := 266) (by decide +kernel) rfl⟩, tyX5_ok, nmX5, rfl, rfl⟩
theorem gf_X8_104 : GF RX8 104 4 2 := ⟨RX5, TX5, 11, rfl, by decide, lay_X5, Or.inr ⟨"ShadowRegistry", nws_in (i := 267) (by decide +kernel) rfl⟩⟩
theorem pf_X8_104 : PF RX8 104 4 2 .int := ⟨RX5, TX5, 11, tyX5, rfl, by decide, lay_X5, Or.inr ⟨"ShadowRegistry", nws_in (i := 267) (by decide +kernel) rfl⟩, tyX5_ok, nmX5, rfl, rfl⟩
theorem gf_X5_61 : GF RX5 61 4 3 := ⟨RX5, TX5, 11, rfl, by decide, lay_X5, Or.inl (tsg_in (i := 268) (by decide +kernel) rfl)⟩
theorem pf_X5_61 : PF RX5 61 4 3 .int := ⟨RX5, TX5, 11, tyX5, rfl, by decide, lay_X5, Or.inl (tsg_in (i := 268) (by decide +kernel) rfl), tyX5_ok, nmX5, rfl, rfl⟩
theorem gf_X8_107 : GF RX8 107 4 3 := ⟨RX5, TX5, 11, rfl, by decide, lay_X5, Or.inr ⟨"ShadowRegistry", nws_in (i := 269) (by decide +kernel) rfl⟩⟩
theorem pf_X8_107 : PF RX8 107 4 3 .int := ⟨RX5, TX5, 11, tyX5, rfl, by decide, lay_X5, Or.inr ⟨"ShadowRegistry", nws_in (i := 269) (by decide +kernel) rfl⟩, tyX5_ok, nmX5, rfl, rfl⟩
theorem gf_X5_9 : GF RX5 9 4 4 := ⟨RX5, TX5, 11, rfl, by decide, lay_X5, Or.inl (tsg_in (i := 270) (by decide +kernel) rfl)⟩
theorem pff_X5_9 : PFF RX5 9 4 4 (.array .int) := ⟨RX5, TX5, 11, tyX5, rfl, by decide, rfl, rfl, lay_X5, tsg_in (i := 270) (by decide +kernel) rfl, tyX5_ok, nmX5, rfl, rfl⟩
theorem gf_X5_15 : GF RX5 15 4 5 := ⟨RX5, TX5, 11, rfl, by decide, lay_X5, Or.inl (tsg_in (i := 271) (by decide +kernel) rfl)⟩
theorem pff_X5_15 : PFF RX5 15 4 5 (.array .int) := ⟨RX5, TX5, 11, tyX5, rfl, by decide, rfl, rfl, lay_X5, tsg_in (i := 271) (by decide +kernel) rfl, tyX5_ok, nmX5, rfl, rfl⟩
theorem gf_X5_18 : GF RX5 18 4 6 := ⟨RX5, TX5, 11, rfl, by decide, lay_X5, Or.inl (tsg_in (i := 272) (by decide +kernel) rfl)⟩
theorem pff_X5_18 : PFF RX5 18 4 6 (.array .int) := ⟨RX5, TX5, 11, tyX5, rfl, by decide, rfl, rfl, lay_X5, tsg_in (i := 272) (by decide +kernel) rfl, tyX5_ok, nmX5, rfl, rfl⟩
theorem gf_X5_21 : GF RX5 21 4 7 := ⟨RX5, TX5, 11, rfl, by decide, lay_X5, Or.inl (tsg_in (i := 273) (by decide +kernel) rfl)⟩
theorem pff_X5_21 : PFF RX5 21 4 7 (.array .int) := ⟨RX5, TX5, 11, tyX5, rfl, by decide, rfl, rfl, lay_X5, tsg_in (i := 273) (by decide +kernel) rfl, tyX5_ok, nmX5, rfl, rfl⟩
theorem gf_X5_24 : GF RX5 24 4 8 := ⟨RX5, TX5, 11, rfl, by decide, lay_X5, Or.inl (tsg_in (i := 274) (by decide +kernel) rfl)⟩
theorem pff_X5_24 : PFF RX5 24 4 8 (.array .int) := ⟨RX5, TX5, 11, tyX5, rfl, by decide, rfl, rfl, lay_X5, tsg_in (i := 274) (by decide +kernel) rfl, tyX5_ok, nmX5, rfl, rfl⟩
theorem gf_X5_27 : GF RX5 27 4 9 := ⟨RX5, TX5, 11, rfl, by decide, lay_X5, Or.inl (tsg_in (i := 275) (by decide +kernel) rfl)⟩
theorem pff_X5_27 : PFF RX5 27 4 9 (.array .int) := ⟨RX5, TX5, 11, tyX5, rfl, by decide, rfl, rfl, lay_X5, tsg_in (i := 275) (by decide +kernel) rfl, tyX5_ok, nmX5, rfl, rfl⟩
theorem gf_X5_30 : GF RX5 30 4 10 := ⟨RX5, TX5, 11, rfl, by decide, lay_X5, Or.inl (tsg_in (i := 276) (by decide +kernel) rfl)⟩
theorem pff_X5_30 : PFF RX5 30 4 10 (.array .int) := ⟨RX5, TX5, 11, tyX5, rfl, by decide, rfl, rfl, lay_X5, tsg_in (i := 276) (by decide +kernel) rfl, tyX5_ok, nmX5, rfl, rfl⟩
theorem gf_X8_12 : GF RX8 12 7 0 := ⟨RX8, TX8, 8, rfl, by decide, lay_X8, Or.inl (tsg_in (i := 300) (by decide +kernel) rfl)⟩
theorem pff_X8_12 : PFF RX8 12 7 0 (.object "ShadowRegistry$Tape") := ⟨RX8, TX8, 8, tyX8, rfl, by decide, rfl, rfl, lay_X8, tsg_in (i := 300) (by decide +kernel) rfl, tyX8_ok, nmX8, rfl, rfl⟩
theorem gf_X8_19 : GF RX8 19 7 1 := ⟨RX8, TX8, 8, rfl, by decide, lay_X8, Or.inl (tsg_in (i := 301) (by decide +kernel) rfl)⟩
theorem pff_X8_19 : PFF RX8 19 7 1 (.object "ShadowRegistry$Book") := ⟨RX8, TX8, 8, tyX8, rfl, by decide, rfl, rfl, lay_X8, tsg_in (i := 301) (by decide +kernel) rfl, tyX8_ok, nmX8, rfl, rfl⟩
theorem gf_X8_33 : GF RX8 33 7 2 := ⟨RX8, TX8, 8, rfl, by decide, lay_X8, Or.inl (tsg_in (i := 302) (by decide +kernel) rfl)⟩
theorem pff_X8_33 : PFF RX8 33 7 2 (.object "ShadowRegistry$Parser") := ⟨RX8, TX8, 8, tyX8, rfl, by decide, rfl, rfl, lay_X8, tsg_in (i := 302) (by decide +kernel) rfl, tyX8_ok, nmX8, rfl, rfl⟩
theorem gf_X8_37 : GF RX8 37 7 3 := ⟨RX8, TX8, 8, rfl, by decide, lay_X8, Or.inl (tsg_in (i := 303) (by decide +kernel) rfl)⟩
theorem pff_X8_37 : PFF RX8 37 7 3 (.object "ShadowRegistry$Book") := ⟨RX8, TX8, 8, tyX8, rfl, by decide, rfl, rfl, lay_X8, tsg_in (i := 303) (by decide +kernel) rfl, tyX8_ok, nmX8, rfl, rfl⟩
theorem gf_X8_45 : GF RX8 45 7 4 := ⟨RX8, TX8, 8, rfl, by decide, lay_X8, Or.inl (tsg_in (i := 304) (by decide +kernel) rfl)⟩
theorem pff_X8_45 : PFF RX8 45 7 4 (.object "ShadowRegistry$Reckoner") := ⟨RX8, TX8, 8, tyX8, rfl, by decide, rfl, rfl, lay_X8, tsg_in (i := 304) (by decide +kernel) rfl, tyX8_ok, nmX8, rfl, rfl⟩
theorem gf_X8_52 : GF RX8 52 7 5 := ⟨RX8, TX8, 8, rfl, by decide, lay_X8, Or.inl (tsg_in (i := 305) (by decide +kernel) rfl)⟩
theorem pff_X8_52 : PFF RX8 52 7 5 (.object "ShadowRegistry$Street") := ⟨RX8, TX8, 8, tyX8, rfl, by decide, rfl, rfl, lay_X8, tsg_in (i := 305) (by decide +kernel) rfl, tyX8_ok, nmX8, rfl, rfl⟩
theorem gf_X8_56 : GF RX8 56 7 6 := ⟨RX8, TX8, 8, rfl, by decide, lay_X8, Or.inl (tsg_in (i := 306) (by decide +kernel) rfl)⟩
theorem pff_X8_56 : PFF RX8 56 7 6 (.object "ShadowRegistry$Street") := ⟨RX8, TX8, 8, tyX8, rfl, by decide, rfl, rfl, lay_X8, tsg_in (i := 306) (by decide +kernel) rfl, tyX8_ok, nmX8, rfl, rfl⟩
theorem gf_X8_59 : GF RX8 59 7 7 := ⟨RX8, TX8, 8, rfl, by decide, lay_X8, Or.inl (tsg_in (i := 307) (by decide +kernel) rfl)⟩
theorem pf_X8_59 : PF RX8 59 7 7 .int := ⟨RX8, TX8, 8, tyX8, rfl, by decide, lay_X8, Or.inl (tsg_in (i := 307) (by decide +kernel) rfl), tyX8_ok, nmX8, rfl, rfl⟩
theorem kf_X7_40 : KF RX7 40 41 := ⟨by decide, tsg_in (i := 915) (by decide +kernel) rfl⟩
theorem kf_X7_56 : KF RX7 56 42 := ⟨by decide, tsg_in (i := 921) (by decide +kernel) rfl⟩
theorem sk_X7_80 : Cond.fieldLinkNest RX7 80 RX8 "KINDS" "[LShadowRegistry$Kind;" "ShadowRegistry" ∈ NWs := nws_in (i := 936) (by decide +kernel) rfl
theorem kf_X7_87 : KF RX7 87 39 := ⟨by decide, tsg_in (i := 938) (by decide +kernel) rfl⟩
theorem kf_X7_92 : KF RX7 92 40 := ⟨by decide, tsg_in (i := 945) (by decide +kernel) rfl⟩
theorem kf_X7_95 : KF RX7 95 37 := ⟨by decide, tsg_in (i := 951) (by decide +kernel) rfl⟩
theorem kf_X7_98 : KF RX7 98 38 := ⟨by decide, tsg_in (i := 953) (by decide +kernel) rfl⟩
theorem kf_X7_105 : KF RX7 105 24 := ⟨by decide, tsg_in (i := 958) (by decide +kernel) rfl⟩
theorem kf_X7_108 : KF RX7 108 25 := ⟨by decide, tsg_in (i := 960) (by decide +kernel) rfl⟩
theorem kf_X7_111 : KF RX7 111 26 := ⟨by decide, tsg_in (i := 962) (by decide +kernel) rfl⟩
theorem kf_X7_114 : KF RX7 114 27 := ⟨by decide, tsg_in (i := 964) (by decide +kernel) rfl⟩
theorem kf_X7_117 : KF RX7 117 28 := ⟨by decide, tsg_in (i := 966) (by decide +kernel) rfl⟩
theorem kf_X7_120 : KF RX7 120 29 := ⟨by decide, tsg_in (i := 968) (by decide +kernel) rfl⟩
theorem kf_X7_123 : KF RX7 123 30 := ⟨by decide, tsg_in (i := 970) (by decide +kernel) rfl⟩
theorem kf_X7_126 : KF RX7 126 31 := ⟨by decide, tsg_in (i := 972) (by decide +kernel) rfl⟩
theorem kf_X7_129 : KF RX7 129 32 := ⟨by decide, tsg_in (i := 974) (by decide +kernel) rfl⟩
theorem kf_X7_132 : KF RX7 132 33 := ⟨by decide, tsg_in (i := 976) (by decide +kernel) rfl⟩
theorem kf_X7_135 : KF RX7 135 34 := ⟨by decide, tsg_in (i := 978) (by decide +kernel) rfl⟩
theorem kf_X7_138 : KF RX7 138 35 := ⟨by decide, tsg_in (i := 980) (by decide +kernel) rfl⟩
theorem kf_X7_141 : KF RX7 141 36 := ⟨by decide, tsg_in (i := 982) (by decide +kernel) rfl⟩
theorem kf_X3_70 : KF RX3 70 41 := ⟨by decide, tsg_in (i := 996) (by decide +kernel) rfl⟩
theorem kf_X3_73 : KF RX3 73 0 := ⟨by decide, tsg_in (i := 997) (by decide +kernel) rfl⟩
theorem kf_X3_89 : KF RX3 89 39 := ⟨by decide, tsg_in (i := 1015) (by decide +kernel) rfl⟩
theorem kf_X3_103 : KF RX3 103 1 := ⟨by decide, tsg_in (i := 1024) (by decide +kernel) rfl⟩
theorem kf_X3_106 : KF RX3 106 40 := ⟨by decide, tsg_in (i := 1026) (by decide +kernel) rfl⟩
theorem kf_X3_115 : KF RX3 115 2 := ⟨by decide, tsg_in (i := 1032) (by decide +kernel) rfl⟩
theorem kf_X3_124 : KF RX3 124 3 := ⟨by decide, tsg_in (i := 1043) (by decide +kernel) rfl⟩
theorem kf_X3_159 : KF RX3 159 4 := ⟨by decide, tsg_in (i := 1049) (by decide +kernel) rfl⟩
theorem kf_X3_171 : KF RX3 171 5 := ⟨by decide, tsg_in (i := 1055) (by decide +kernel) rfl⟩
theorem kf_X3_264 : KF RX3 264 11 := ⟨by decide, tsg_in (i := 1073) (by decide +kernel) rfl⟩
theorem kf_X3_267 : KF RX3 267 15 := ⟨by decide, tsg_in (i := 1075) (by decide +kernel) rfl⟩
theorem kf_X3_270 : KF RX3 270 12 := ⟨by decide, tsg_in (i := 1077) (by decide +kernel) rfl⟩
theorem kf_X3_273 : KF RX3 273 13 := ⟨by decide, tsg_in (i := 1079) (by decide +kernel) rfl⟩
theorem kf_X3_276 : KF RX3 276 14 := ⟨by decide, tsg_in (i := 1081) (by decide +kernel) rfl⟩
theorem kf_X3_279 : KF RX3 279 16 := ⟨by decide, tsg_in (i := 1083) (by decide +kernel) rfl⟩
theorem kf_X3_252 : KF RX3 252 31 := ⟨by decide, tsg_in (i := 1085) (by decide +kernel) rfl⟩
theorem kf_X3_282 : KF RX3 282 24 := ⟨by decide, tsg_in (i := 1090) (by decide +kernel) rfl⟩
theorem kf_X3_285 : KF RX3 285 25 := ⟨by decide, tsg_in (i := 1091) (by decide +kernel) rfl⟩
theorem kf_X3_288 : KF RX3 288 22 := ⟨by decide, tsg_in (i := 1092) (by decide +kernel) rfl⟩
theorem kf_X3_291 : KF RX3 291 23 := ⟨by decide, tsg_in (i := 1094) (by decide +kernel) rfl⟩
theorem kf_X3_297 : KF RX3 297 29 := ⟨by decide, tsg_in (i := 1100) (by decide +kernel) rfl⟩
theorem kf_X3_258 : KF RX3 258 32 := ⟨by decide, tsg_in (i := 1101) (by decide +kernel) rfl⟩
theorem kf_X3_261 : KF RX3 261 33 := ⟨by decide, tsg_in (i := 1102) (by decide +kernel) rfl⟩
theorem kf_X3_249 : KF RX3 249 30 := ⟨by decide, tsg_in (i := 1103) (by decide +kernel) rfl⟩
theorem kf_X3_177 : KF RX3 177 6 := ⟨by decide, tsg_in (i := 1104) (by decide +kernel) rfl⟩
theorem kf_X3_180 : KF RX3 180 7 := ⟨by decide, tsg_in (i := 1106) (by decide +kernel) rfl⟩
theorem kf_X3_183 : KF RX3 183 8 := ⟨by decide, tsg_in (i := 1108) (by decide +kernel) rfl⟩
theorem kf_X3_186 : KF RX3 186 9 := ⟨by decide, tsg_in (i := 1110) (by decide +kernel) rfl⟩
theorem kf_X3_139 : KF RX3 139 10 := ⟨by decide, tsg_in (i := 1112) (by decide +kernel) rfl⟩
theorem kf_X3_205 : KF RX3 205 19 := ⟨by decide, tsg_in (i := 1126) (by decide +kernel) rfl⟩
theorem kf_X3_212 : KF RX3 212 26 := ⟨by decide, tsg_in (i := 1128) (by decide +kernel) rfl⟩
theorem kf_X3_215 : KF RX3 215 27 := ⟨by decide, tsg_in (i := 1129) (by decide +kernel) rfl⟩
theorem kf_X3_218 : KF RX3 218 17 := ⟨by decide, tsg_in (i := 1130) (by decide +kernel) rfl⟩
theorem kf_X3_221 : KF RX3 221 18 := ⟨by decide, tsg_in (i := 1132) (by decide +kernel) rfl⟩
theorem kf_X3_231 : KF RX3 231 34 := ⟨by decide, tsg_in (i := 1137) (by decide +kernel) rfl⟩
theorem kf_X3_234 : KF RX3 234 35 := ⟨by decide, tsg_in (i := 1138) (by decide +kernel) rfl⟩
theorem kf_X3_237 : KF RX3 237 36 := ⟨by decide, tsg_in (i := 1139) (by decide +kernel) rfl⟩
theorem kf_X3_240 : KF RX3 240 37 := ⟨by decide, tsg_in (i := 1140) (by decide +kernel) rfl⟩
theorem kf_X3_243 : KF RX3 243 38 := ⟨by decide, tsg_in (i := 1141) (by decide +kernel) rfl⟩
theorem kf_X3_202 : KF RX3 202 20 := ⟨by decide, tsg_in (i := 1142) (by decide +kernel) rfl⟩
theorem kf_X3_192 : KF RX3 192 21 := ⟨by decide, tsg_in (i := 1144) (by decide +kernel) rfl⟩
theorem kf_X3_82 : KF RX3 82 28 := ⟨by decide, tsg_in (i := 1154) (by decide +kernel) rfl⟩
theorem gf_X9_9 : GF RX9 9 8 0 := ⟨RX9, TX9, 7, rfl, by decide, lay_X9, Or.inl (tsg_in (i := 1182) (by decide +kernel) rfl)⟩
theorem pf_X9_9 : PF RX9 9 8 0 (.array (.array .int)) := ⟨RX9, TX9, 7, tyX9, rfl, by decide, lay_X9, Or.inl (tsg_in (i := 1182) (by decide +kernel) rfl), tyX9_ok, nmX9, rfl, rfl⟩
theorem gf_X10_32 : GF RX10 32 8 0 := ⟨RX9, TX9, 7, rfl, by decide, lay_X9, Or.inl (tsg_in (i := 1183) (by decide +kernel) rfl)⟩
theorem pf_X10_32 : PF RX10 32 8 0 (.array (.array .int)) := ⟨RX9, TX9, 7, tyX9, rfl, by decide, lay_X9, Or.inl (tsg_in (i := 1183) (by decide +kernel) rfl), tyX9_ok, nmX9, rfl, rfl⟩
theorem gf_L_73 : GF RL 73 8 0 := ⟨RX9, TX9, 7, rfl, by decide, lay_X9, Or.inl (tsg_in (i := 1184) (by decide +kernel) rfl)⟩
