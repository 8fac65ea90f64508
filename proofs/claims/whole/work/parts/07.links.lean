theorem lay_X0 : ∀ w ∈ u_ws RX0 TX0 10, w ∈ TSg := by
  intro w hw
  obtain ⟨j, hj, rfl⟩ := List.mem_map.mp hw
  have hj := List.mem_range.mp hj
  match j, hj with
  | 0, _ => exact tsg_in (i := 213) (by decide +kernel) rfl
  | 1, _ => exact tsg_in (i := 215) (by decide +kernel) rfl
  | 2, _ => exact tsg_in (i := 217) (by decide +kernel) rfl
  | 3, _ => exact tsg_in (i := 219) (by decide +kernel) rfl
  | 4, _ => exact tsg_in (i := 221) (by decide +kernel) rfl
  | 5, _ => exact tsg_in (i := 223) (by decide +kernel) rfl
  | 6, _ => exact tsg_in (i := 225) (by decide +kernel) rfl
  | 7, _ => exact tsg_in (i := 227) (by decide +kernel) rfl
  | 8, _ => exact tsg_in (i := 229) (by decide +kernel) rfl
  | 9, _ => exact tsg_in (i := 231) (by decide +kernel) rfl
  | j + 10, h => exact absurd h (by omega)
theorem lay_X2 : ∀ w ∈ u_ws RX2 TX2 6, w ∈ TSg := by
  intro w hw
  obtain ⟨j, hj, rfl⟩ := List.mem_map.mp hw
  have hj := List.mem_range.mp hj
  match j, hj with
  | 0, _ => exact tsg_in (i := 177) (by decide +kernel) rfl
  | 1, _ => exact tsg_in (i := 179) (by decide +kernel) rfl
  | 2, _ => exact tsg_in (i := 181) (by decide +kernel) rfl
  | 3, _ => exact tsg_in (i := 183) (by decide +kernel) rfl
  | 4, _ => exact tsg_in (i := 185) (by decide +kernel) rfl
  | 5, _ => exact tsg_in (i := 187) (by decide +kernel) rfl
  | j + 6, h => exact absurd h (by omega)
theorem lay_X3 : ∀ w ∈ u_ws RX3 TX3 9, w ∈ TSg := by
  intro w hw
  obtain ⟨j, hj, rfl⟩ := List.mem_map.mp hw
  have hj := List.mem_range.mp hj
  match j, hj with
  | 0, _ => exact tsg_in (i := 278) (by decide +kernel) rfl
  | 1, _ => exact tsg_in (i := 280) (by decide +kernel) rfl
  | 2, _ => exact tsg_in (i := 282) (by decide +kernel) rfl
  | 3, _ => exact tsg_in (i := 284) (by decide +kernel) rfl
  | 4, _ => exact tsg_in (i := 286) (by decide +kernel) rfl
  | 5, _ => exact tsg_in (i := 288) (by decide +kernel) rfl
  | 6, _ => exact tsg_in (i := 290) (by decide +kernel) rfl
  | 7, _ => exact tsg_in (i := 292) (by decide +kernel) rfl
  | 8, _ => exact tsg_in (i := 294) (by decide +kernel) rfl
  | j + 9, h => exact absurd h (by omega)
theorem lay_X4 : ∀ w ∈ u_ws RX4 TX4 3, w ∈ TSg := by
  intro w hw
  obtain ⟨j, hj, rfl⟩ := List.mem_map.mp hw
  have hj := List.mem_range.mp hj
  match j, hj with
  | 0, _ => exact tsg_in (i := 306) (by decide +kernel) rfl
  | 1, _ => exact tsg_in (i := 308) (by decide +kernel) rfl
  | 2, _ => exact tsg_in (i := 310) (by decide +kernel) rfl
  | j + 3, h => exact absurd h (by omega)
theorem lay_X5 : ∀ w ∈ u_ws RX5 TX5 11, w ∈ TSg := by
  intro w hw
  obtain ⟨j, hj, rfl⟩ := List.mem_map.mp hw
  have hj := List.mem_range.mp hj
  match j, hj with
  | 0, _ => exact tsg_in (i := 336) (by decide +kernel) rfl
  | 1, _ => exact tsg_in (i := 338) (by decide +kernel) rfl
  | 2, _ => exact tsg_in (i := 340) (by decide +kernel) rfl
  | 3, _ => exact tsg_in (i := 342) (by decide +kernel) rfl
  | 4, _ => exact tsg_in (i := 344) (by decide +kernel) rfl
  | 5, _ => exact tsg_in (i := 346) (by decide +kernel) rfl
  | 6, _ => exact tsg_in (i := 348) (by decide +kernel) rfl
  | 7, _ => exact tsg_in (i := 350) (by decide +kernel) rfl
  | 8, _ => exact tsg_in (i := 352) (by decide +kernel) rfl
  | 9, _ => exact tsg_in (i := 354) (by decide +kernel) rfl
  | 10, _ => exact tsg_in (i := 356) (by decide +kernel) rfl
  | j + 11, h => exact absurd h (by omega)
theorem lay_X6 : ∀ w ∈ u_ws RX6 TX6 2, w ∈ TSg := by
  intro w hw
  obtain ⟨j, hj, rfl⟩ := List.mem_map.mp hw
  have hj := List.mem_range.mp hj
  match j, hj with
  | 0, _ => exact tsg_in (i := 140) (by decide +kernel) rfl
  | 1, _ => exact tsg_in (i := 142) (by decide +kernel) rfl
  | j + 2, h => exact absurd h (by omega)
theorem lay_X7 : ∀ w ∈ u_ws RX7 TX7 5, w ∈ TSg := by
  intro w hw
  obtain ⟨j, hj, rfl⟩ := List.mem_map.mp hw
  have hj := List.mem_range.mp hj
  match j, hj with
  | 0, _ => exact tsg_in (i := 249) (by decide +kernel) rfl
  | 1, _ => exact tsg_in (i := 251) (by decide +kernel) rfl
  | 2, _ => exact tsg_in (i := 253) (by decide +kernel) rfl
  | 3, _ => exact tsg_in (i := 255) (by decide +kernel) rfl
  | 4, _ => exact tsg_in (i := 257) (by decide +kernel) rfl
  | j + 5, h => exact absurd h (by omega)
theorem lay_X8 : ∀ w ∈ u_ws RX8 TX8 8, w ∈ TSg := by
  intro w hw
  obtain ⟨j, hj, rfl⟩ := List.mem_map.mp hw
  have hj := List.mem_range.mp hj
  match j, hj with
  | 0, _ => exact tsg_in (i := 367) (by decide +kernel) rfl
  | 1, _ => exact tsg_in (i := 369) (by decide +kernel) rfl
  | 2, _ => exact tsg_in (i := 371) (by decide +kernel) rfl
  | 3, _ => exact tsg_in (i := 373) (by decide +kernel) rfl
  | 4, _ => exact tsg_in (i := 375) (by decide +kernel) rfl
  | 5, _ => exact tsg_in (i := 377) (by decide +kernel) rfl
  | 6, _ => exact tsg_in (i := 379) (by decide +kernel) rfl
  | 7, _ => exact tsg_in (i := 381) (by decide +kernel) rfl
  | j + 8, h => exact absurd h (by omega)
theorem lay_X9 : ∀ w ∈ u_ws RX9 TX9 13, w ∈ TSg := by
  intro w hw
  obtain ⟨j, hj, rfl⟩ := List.mem_map.mp hw
  have hj := List.mem_range.mp hj
  match j, hj with
  | 0, _ => exact tsg_in (i := 1220) (by decide +kernel) rfl
  | 1, _ => exact tsg_in (i := 1222) (by decide +kernel) rfl
  | 2, _ => exact tsg_in (i := 1224) (by decide +kernel) rfl
  | 3, _ => exact tsg_in (i := 1226) (by decide +kernel) rfl
  | 4, _ => exact tsg_in (i := 1228) (by decide +kernel) rfl
  | 5, _ => exact tsg_in (i := 1230) (by decide +kernel) rfl
  | 6, _ => exact tsg_in (i := 1232) (by decide +kernel) rfl
  | 7, _ => exact tsg_in (i := 1234) (by decide +kernel) rfl
  | 8, _ => exact tsg_in (i := 1236) (by decide +kernel) rfl
  | 9, _ => exact tsg_in (i := 1238) (by decide +kernel) rfl
  | 10, _ => exact tsg_in (i := 1240) (by decide +kernel) rfl
  | 11, _ => exact tsg_in (i := 1242) (by decide +kernel) rfl
  | 12, _ => exact tsg_in (i := 1244) (by decide +kernel) rfl
  | j + 13, h => exact absurd h (by omega)
theorem lay_X10 : ∀ w ∈ u_ws RX10 TX10 26, w ∈ TSg := by
  intro w hw
  obtain ⟨j, hj, rfl⟩ := List.mem_map.mp hw
  have hj := List.mem_range.mp hj
  match j, hj with
  | 0, _ => exact tsg_in (i := 1273) (by decide +kernel) rfl
  | 1, _ => exact tsg_in (i := 1275) (by decide +kernel) rfl
  | 2, _ => exact tsg_in (i := 1277) (by decide +kernel) rfl
  | 3, _ => exact tsg_in (i := 1279) (by decide +kernel) rfl
  | 4, _ => exact tsg_in (i := 1281) (by decide +kernel) rfl
  | 5, _ => exact tsg_in (i := 1283) (by decide +kernel) rfl
  | 6, _ => exact tsg_in (i := 1285) (by decide +kernel) rfl
  | 7, _ => exact tsg_in (i := 1287) (by decide +kernel) rfl
  | 8, _ => exact tsg_in (i := 1289) (by decide +kernel) rfl
  | 9, _ => exact tsg_in (i := 1291) (by decide +kernel) rfl
  | 10, _ => exact tsg_in (i := 1293) (by decide +kernel) rfl
  | 11, _ => exact tsg_in (i := 1295) (by decide +kernel) rfl
  | 12, _ => exact tsg_in (i := 1297) (by decide +kernel) rfl
  | 13, _ => exact tsg_in (i := 1299) (by decide +kernel) rfl
  | 14, _ => exact tsg_in (i := 1301) (by decide +kernel) rfl
  | 15, _ => exact tsg_in (i := 1303) (by decide +kernel) rfl
  | 16, _ => exact tsg_in (i := 1305) (by decide +kernel) rfl
  | 17, _ => exact tsg_in (i := 1307) (by decide +kernel) rfl
  | 18, _ => exact tsg_in (i := 1309) (by decide +kernel) rfl
  | 19, _ => exact tsg_in (i := 1311) (by decide +kernel) rfl
  | 20, _ => exact tsg_in (i := 1313) (by decide +kernel) rfl
  | 21, _ => exact tsg_in (i := 1315) (by decide +kernel) rfl
  | 22, _ => exact tsg_in (i := 1317) (by decide +kernel) rfl
  | 23, _ => exact tsg_in (i := 1319) (by decide +kernel) rfl
  | 24, _ => exact tsg_in (i := 1321) (by decide +kernel) rfl
  | 25, _ => exact tsg_in (i := 1323) (by decide +kernel) rfl
  | j + 26, h => exact absurd h (by omega)
theorem gf_X6_9 : GF RX6 9 5 0 := ⟨RX6, TX6, 2, rfl, by decide, rfl, lay_X6, Or.inl (tsg_in (i := 136) (by decide +kernel) rfl)⟩
theorem pff_X6_9 : PFF RX6 9 5 0 (.array .byte) := ⟨RX6, TX6, 2, tyX6, rfl, by decide, rfl, rfl, lay_X6, tsg_in (i := 136) (by decide +kernel) rfl, tyX6_ok, nmX6, rfl, rfl⟩
theorem gf_X8_63 : GF RX8 63 5 1 := ⟨RX6, TX6, 2, rfl, by decide, rfl, lay_X6, Or.inr ⟨"ShadowRegistry", nws_in (i := 137) (by decide +kernel) rfl⟩⟩
theorem pf_X8_63 : PF RX8 63 5 1 .int := ⟨RX6, TX6, 2, tyX6, rfl, by decide, rfl, lay_X6, Or.inr ⟨"ShadowRegistry", nws_in (i := 137) (by decide +kernel) rfl⟩, tyX6_ok, nmX6, rfl, rfl⟩
theorem gf_X6_15 : GF RX6 15 5 1 := ⟨RX6, TX6, 2, rfl, by decide, rfl, lay_X6, Or.inl (tsg_in (i := 138) (by decide +kernel) rfl)⟩
theorem pf_X6_15 : PF RX6 15 5 1 .int := ⟨RX6, TX6, 2, tyX6, rfl, by decide, rfl, lay_X6, Or.inl (tsg_in (i := 138) (by decide +kernel) rfl), tyX6_ok, nmX6, rfl, rfl⟩
theorem gf_X7_44 : GF RX7 44 5 1 := ⟨RX6, TX6, 2, rfl, by decide, rfl, lay_X6, Or.inr ⟨"ShadowRegistry", nws_in (i := 139) (by decide +kernel) rfl⟩⟩
theorem pf_X7_44 : PF RX7 44 5 1 .int := ⟨RX6, TX6, 2, tyX6, rfl, by decide, rfl, lay_X6, Or.inr ⟨"ShadowRegistry", nws_in (i := 139) (by decide +kernel) rfl⟩, tyX6_ok, nmX6, rfl, rfl⟩
theorem gf_X2_7 : GF RX2 7 1 0 := ⟨RX2, TX2, 6, rfl, by decide, rfl, lay_X2, Or.inl (tsg_in (i := 159) (by decide +kernel) rfl)⟩
theorem pf_X2_7 : PF RX2 7 1 0 .int := ⟨RX2, TX2, 6, tyX2, rfl, by decide, rfl, lay_X2, Or.inl (tsg_in (i := 159) (by decide +kernel) rfl), tyX2_ok, nmX2, rfl, rfl⟩
theorem gf_X4_53 : GF RX4 53 1 0 := ⟨RX2, TX2, 6, rfl, by decide, rfl, lay_X2, Or.inr ⟨"ShadowRegistry", nws_in (i := 160) (by decide +kernel) rfl⟩⟩
theorem pf_X4_53 : PF RX4 53 1 0 .int := ⟨RX2, TX2, 6, tyX2, rfl, by decide, rfl, lay_X2, Or.inr ⟨"ShadowRegistry", nws_in (i := 160) (by decide +kernel) rfl⟩, tyX2_ok, nmX2, rfl, rfl⟩
theorem gf_X3_162 : GF RX3 162 1 0 := ⟨RX2, TX2, 6, rfl, by decide, rfl, lay_X2, Or.inr ⟨"ShadowRegistry", nws_in (i := 161) (by decide +kernel) rfl⟩⟩
theorem pf_X3_162 : PF RX3 162 1 0 .int := ⟨RX2, TX2, 6, tyX2, rfl, by decide, rfl, lay_X2, Or.inr ⟨"ShadowRegistry", nws_in (i := 161) (by decide +kernel) rfl⟩, tyX2_ok, nmX2, rfl, rfl⟩
theorem gf_X2_13 : GF RX2 13 1 1 := ⟨RX2, TX2, 6, rfl, by decide, rfl, lay_X2, Or.inl (tsg_in (i := 162) (by decide +kernel) rfl)⟩
theorem pf_X2_13 : PF RX2 13 1 1 .int := ⟨RX2, TX2, 6, tyX2, rfl, by decide, rfl, lay_X2, Or.inl (tsg_in (i := 162) (by decide +kernel) rfl), tyX2_ok, nmX2, rfl, rfl⟩
theorem gf_X4_56 : GF RX4 56 1 1 := ⟨RX2, TX2, 6, rfl, by decide, rfl, lay_X2, Or.inr ⟨"ShadowRegistry", nws_in (i := 163) (by decide +kernel) rfl⟩⟩
theorem pf_X4_56 : PF RX4 56 1 1 .int := ⟨RX2, TX2, 6, tyX2, rfl, by decide, rfl, lay_X2, Or.inr ⟨"ShadowRegistry", nws_in (i := 163) (by decide +kernel) rfl⟩, tyX2_ok, nmX2, rfl, rfl⟩
theorem gf_X3_168 : GF RX3 168 1 1 := ⟨RX2, TX2, 6, rfl, by decide, rfl, lay_X2, Or.inr ⟨"ShadowRegistry", nws_in (i := 164) (by decide +kernel) rfl⟩⟩
theorem pf_X3_168 : PF RX3 168 1 1 .int := ⟨RX2, TX2, 6, tyX2, rfl, by decide, rfl, lay_X2, Or.inr ⟨"ShadowRegistry", nws_in (i := 164) (by decide +kernel) rfl⟩, tyX2_ok, nmX2, rfl, rfl⟩
theorem gf_X2_16 : GF RX2 16 1 2 := ⟨RX2, TX2, 6, rfl, by decide, rfl, lay_X2, Or.inl (tsg_in (i := 165) (by decide +kernel) rfl)⟩
theorem pf_X2_16 : PF RX2 16 1 2 .int := ⟨RX2, TX2, 6, tyX2, rfl, by decide, rfl, lay_X2, Or.inl (tsg_in (i := 165) (by decide +kernel) rfl), tyX2_ok, nmX2, rfl, rfl⟩
theorem gf_X4_63 : GF RX4 63 1 2 := ⟨RX2, TX2, 6, rfl, by decide, rfl, lay_X2, Or.inr ⟨"ShadowRegistry", nws_in (i := 166) (by decide +kernel) rfl⟩⟩
theorem pf_X4_63 : PF RX4 63 1 2 .int := ⟨RX2, TX2, 6, tyX2, rfl, by decide, rfl, lay_X2, Or.inr ⟨"ShadowRegistry", nws_in (i := 166) (by decide +kernel) rfl⟩, tyX2_ok, nmX2, rfl, rfl⟩
theorem gf_X3_153 : GF RX3 153 1 2 := ⟨RX2, TX2, 6, rfl, by decide, rfl, lay_X2, Or.inr ⟨"ShadowRegistry", nws_in (i := 167) (by decide +kernel) rfl⟩⟩
theorem pf_X3_153 : PF RX3 153 1 2 .int := ⟨RX2, TX2, 6, tyX2, rfl, by decide, rfl, lay_X2, Or.inr ⟨"ShadowRegistry", nws_in (i := 167) (by decide +kernel) rfl⟩, tyX2_ok, nmX2, rfl, rfl⟩
theorem gf_X2_19 : GF RX2 19 1 3 := ⟨RX2, TX2, 6, rfl, by decide, rfl, lay_X2, Or.inl (tsg_in (i := 168) (by decide +kernel) rfl)⟩
theorem pf_X2_19 : PF RX2 19 1 3 .int := ⟨RX2, TX2, 6, tyX2, rfl, by decide, rfl, lay_X2, Or.inl (tsg_in (i := 168) (by decide +kernel) rfl), tyX2_ok, nmX2, rfl, rfl⟩
theorem gf_X4_66 : GF RX4 66 1 3 := ⟨RX2, TX2, 6, rfl, by decide, rfl, lay_X2, Or.inr ⟨"ShadowRegistry", nws_in (i := 169) (by decide +kernel) rfl⟩⟩
theorem pf_X4_66 : PF RX4 66 1 3 .int := ⟨RX2, TX2, 6, tyX2, rfl, by decide, rfl, lay_X2, Or.inr ⟨"ShadowRegistry", nws_in (i := 169) (by decide +kernel) rfl⟩, tyX2_ok, nmX2, rfl, rfl⟩
theorem gf_X3_156 : GF RX3 156 1 3 := ⟨RX2, TX2, 6, rfl, by decide, rfl, lay_X2, Or.inr ⟨"ShadowRegistry", nws_in (i := 170) (by decide +kernel) rfl⟩⟩
theorem pf_X3_156 : PF RX3 156 1 3 .int := ⟨RX2, TX2, 6, tyX2, rfl, by decide, rfl, lay_X2, Or.inr ⟨"ShadowRegistry", nws_in (i := 170) (by decide +kernel) rfl⟩, tyX2_ok, nmX2, rfl, rfl⟩
theorem gf_X2_22 : GF RX2 22 1 4 := ⟨RX2, TX2, 6, rfl, by decide, rfl, lay_X2, Or.inl (tsg_in (i := 171) (by decide +kernel) rfl)⟩
theorem pf_X2_22 : PF RX2 22 1 4 .int := ⟨RX2, TX2, 6, tyX2, rfl, by decide, rfl, lay_X2, Or.inl (tsg_in (i := 171) (by decide +kernel) rfl), tyX2_ok, nmX2, rfl, rfl⟩
theorem gf_X4_41 : GF RX4 41 1 4 := ⟨RX2, TX2, 6, rfl, by decide, rfl, lay_X2, Or.inr ⟨"ShadowRegistry", nws_in (i := 172) (by decide +kernel) rfl⟩⟩
theorem pf_X4_41 : PF RX4 41 1 4 .int := ⟨RX2, TX2, 6, tyX2, rfl, by decide, rfl, lay_X2, Or.inr ⟨"ShadowRegistry", nws_in (i := 172) (by decide +kernel) rfl⟩, tyX2_ok, nmX2, rfl, rfl⟩
theorem gf_X3_136 : GF RX3 136 1 4 := ⟨RX2, TX2, 6, rfl, by decide, rfl, lay_X2, Or.inr ⟨"ShadowRegistry", nws_in (i := 173) (by decide +kernel) rfl⟩⟩
theorem pf_X3_136 : PF RX3 136 1 4 .int := ⟨RX2, TX2, 6, tyX2, rfl, by decide, rfl, lay_X2, Or.inr ⟨"ShadowRegistry", nws_in (i := 173) (by decide +kernel) rfl⟩, tyX2_ok, nmX2, rfl, rfl⟩
theorem gf_X2_25 : GF RX2 25 1 5 := ⟨RX2, TX2, 6, rfl, by decide, rfl, lay_X2, Or.inl (tsg_in (i := 174) (by decide +kernel) rfl)⟩
theorem pf_X2_25 : PF RX2 25 1 5 .int := ⟨RX2, TX2, 6, tyX2, rfl, by decide, rfl, lay_X2, Or.inl (tsg_in (i := 174) (by decide +kernel) rfl), tyX2_ok, nmX2, rfl, rfl⟩
theorem gf_X4_46 : GF RX4 46 1 5 := ⟨RX2, TX2, 6, rfl, by decide, rfl, lay_X2, Or.inr ⟨"ShadowRegistry", nws_in (i := 175) (by decide +kernel) rfl⟩⟩
theorem pf_X4_46 : PF RX4 46 1 5 .int := ⟨RX2, TX2, 6, tyX2, rfl, by decide, rfl, lay_X2, Or.inr ⟨"ShadowRegistry", nws_in (i := 175) (by decide +kernel) rfl⟩, tyX2_ok, nmX2, rfl, rfl⟩
theorem gf_X3_146 : GF RX3 146 1 5 := ⟨RX2, TX2, 6, rfl, by decide, rfl, lay_X2, Or.inr ⟨"ShadowRegistry", nws_in (i := 176) (by decide +kernel) rfl⟩⟩
theorem pf_X3_146 : PF RX3 146 1 5 .int := ⟨RX2, TX2, 6, tyX2, rfl, by decide, rfl, lay_X2, Or.inr ⟨"ShadowRegistry", nws_in (i := 176) (by decide +kernel) rfl⟩, tyX2_ok, nmX2, rfl, rfl⟩
theorem gf_X0_9 : GF RX0 9 0 0 := ⟨RX0, TX0, 10, rfl, by decide, rfl, lay_X0, Or.inl (tsg_in (i := 192) (by decide +kernel) rfl)⟩
theorem pff_X0_9 : PFF RX0 9 0 0 (.array .long) := ⟨RX0, TX0, 10, tyX0, rfl, by decide, rfl, rfl, lay_X0, tsg_in (i := 192) (by decide +kernel) rfl, tyX0_ok, nmX0, rfl, rfl⟩
theorem gf_X0_15 : GF RX0 15 0 1 := ⟨RX0, TX0, 10, rfl, by decide, rfl, lay_X0, Or.inl (tsg_in (i := 193) (by decide +kernel) rfl)⟩
theorem pff_X0_15 : PFF RX0 15 0 1 (.array .int) := ⟨RX0, TX0, 10, tyX0, rfl, by decide, rfl, rfl, lay_X0, tsg_in (i := 193) (by decide +kernel) rfl, tyX0_ok, nmX0, rfl, rfl⟩
theorem gf_X5_52 : GF RX5 52 0 1 := ⟨RX0, TX0, 10, rfl, by decide, rfl, lay_X0, Or.inr ⟨"ShadowRegistry", nws_in (i := 194) (by decide +kernel) rfl⟩⟩
theorem gf_X0_19 : GF RX0 19 0 2 := ⟨RX0, TX0, 10, rfl, by decide, rfl, lay_X0, Or.inl (tsg_in (i := 195) (by decide +kernel) rfl)⟩
theorem pff_X0_19 : PFF RX0 19 0 2 (.array .int) := ⟨RX0, TX0, 10, tyX0, rfl, by decide, rfl, rfl, lay_X0, tsg_in (i := 195) (by decide +kernel) rfl, tyX0_ok, nmX0, rfl, rfl⟩
theorem gf_X5_53 : GF RX5 53 0 2 := ⟨RX0, TX0, 10, rfl, by decide, rfl, lay_X0, Or.inr ⟨"ShadowRegistry", nws_in (i := 196) (by decide +kernel) rfl⟩⟩
theorem gf_X0_38 : GF RX0 38 0 3 := ⟨RX0, TX0, 10, rfl, by decide, rfl, lay_X0, Or.inl (tsg_in (i := 197) (by decide +kernel) rfl)⟩
theorem pf_X0_38 : PF RX0 38 0 3 .int := ⟨RX0, TX0, 10, tyX0, rfl, by decide, rfl, lay_X0, Or.inl (tsg_in (i := 197) (by decide +kernel) rfl), tyX0_ok, nmX0, rfl, rfl⟩
theorem gf_X5_33 : GF RX5 33 0 3 := ⟨RX0, TX0, 10, rfl, by decide, rfl, lay_X0, Or.inr ⟨"ShadowRegistry", nws_in (i := 198) (by decide +kernel) rfl⟩⟩
theorem pf_X5_33 : PF RX5 33 0 3 .int := ⟨RX0, TX0, 10, tyX0, rfl, by decide, rfl, lay_X0, Or.inr ⟨"ShadowRegistry", nws_in (i := 198) (by decide +kernel) rfl⟩, tyX0_ok, nmX0, rfl, rfl⟩
theorem gf_X3_100 : GF RX3 100 0 3 := ⟨RX0, TX0, 10, rfl, by decide, rfl, lay_X0, Or.inr ⟨"ShadowRegistry", nws_in (i := 199) (by decide +kernel) rfl⟩⟩
theorem pf_X3_100 : PF RX3 100 0 3 .int := ⟨RX0, TX0, 10, tyX0, rfl, by decide, rfl, lay_X0, Or.inr ⟨"ShadowRegistry", nws_in (i := 199) (by decide +kernel) rfl⟩, tyX0_ok, nmX0, rfl, rfl⟩
theorem gf_X0_24 : GF RX0 24 0 4 := ⟨RX0, TX0, 10, rfl, by decide, rfl, lay_X0, Or.inl (tsg_in (i := 200) (by decide +kernel) rfl)⟩
theorem pff_X0_24 : PFF RX0 24 0 4 (.array (.object "ShadowRegistry$Law")) := ⟨RX0, TX0, 10, tyX0, rfl, by decide, rfl, rfl, lay_X0, tsg_in (i := 200) (by decide +kernel) rfl, tyX0_ok, nmX0, rfl, rfl⟩
theorem gf_X0_42 : GF RX0 42 0 5 := ⟨RX0, TX0, 10, rfl, by decide, rfl, lay_X0, Or.inl (tsg_in (i := 201) (by decide +kernel) rfl)⟩
theorem pf_X0_42 : PF RX0 42 0 5 .int := ⟨RX0, TX0, 10, tyX0, rfl, by decide, rfl, lay_X0, Or.inl (tsg_in (i := 201) (by decide +kernel) rfl), tyX0_ok, nmX0, rfl, rfl⟩
theorem gf_X4_19 : GF RX4 19 0 5 := ⟨RX0, TX0, 10, rfl, by decide, rfl, lay_X0, Or.inr ⟨"ShadowRegistry", nws_in (i := 202) (by decide +kernel) rfl⟩⟩
theorem pf_X4_19 : PF RX4 19 0 5 .int := ⟨RX0, TX0, 10, tyX0, rfl, by decide, rfl, lay_X0, Or.inr ⟨"ShadowRegistry", nws_in (i := 202) (by decide +kernel) rfl⟩, tyX0_ok, nmX0, rfl, rfl⟩
theorem gf_X3_127 : GF RX3 127 0 5 := ⟨RX0, TX0, 10, rfl, by decide, rfl, lay_X0, Or.inr ⟨"ShadowRegistry", nws_in (i := 203) (by decide +kernel) rfl⟩⟩
theorem pf_X3_127 : PF RX3 127 0 5 .int := ⟨RX0, TX0, 10, tyX0, rfl, by decide, rfl, lay_X0, Or.inr ⟨"ShadowRegistry", nws_in (i := 203) (by decide +kernel) rfl⟩, tyX0_ok, nmX0, rfl, rfl⟩
theorem gf_X8_98 : GF RX8 98 0 5 := ⟨RX0, TX0, 10, rfl, by decide, rfl, lay_X0, Or.inr ⟨"ShadowRegistry", nws_in (i := 204) (by decide +kernel) rfl⟩⟩
theorem pf_X8_98 : PF RX8 98 0 5 .int := ⟨RX0, TX0, 10, tyX0, rfl, by decide, rfl, lay_X0, Or.inr ⟨"ShadowRegistry", nws_in (i := 204) (by decide +kernel) rfl⟩, tyX0_ok, nmX0, rfl, rfl⟩
theorem gf_X0_28 : GF RX0 28 0 6 := ⟨RX0, TX0, 10, rfl, by decide, rfl, lay_X0, Or.inl (tsg_in (i := 205) (by decide +kernel) rfl)⟩
theorem pff_X0_28 : PFF RX0 28 0 6 (.array .int) := ⟨RX0, TX0, 10, tyX0, rfl, by decide, rfl, rfl, lay_X0, tsg_in (i := 205) (by decide +kernel) rfl, tyX0_ok, nmX0, rfl, rfl⟩
theorem gf_X4_90 : GF RX4 90 0 6 := ⟨RX0, TX0, 10, rfl, by decide, rfl, lay_X0, Or.inr ⟨"ShadowRegistry", nws_in (i := 206) (by decide +kernel) rfl⟩⟩
theorem gf_X0_31 : GF RX0 31 0 7 := ⟨RX0, TX0, 10, rfl, by decide, rfl, lay_X0, Or.inl (tsg_in (i := 207) (by decide +kernel) rfl)⟩
theorem pff_X0_31 : PFF RX0 31 0 7 (.array .int) := ⟨RX0, TX0, 10, tyX0, rfl, by decide, rfl, rfl, lay_X0, tsg_in (i := 207) (by decide +kernel) rfl, tyX0_ok, nmX0, rfl, rfl⟩
theorem gf_X4_93 : GF RX4 93 0 7 := ⟨RX0, TX0, 10, rfl, by decide, rfl, lay_X0, Or.inr ⟨"ShadowRegistry", nws_in (i := 208) (by decide +kernel) rfl⟩⟩
theorem gf_X0_34 : GF RX0 34 0 8 := ⟨RX0, TX0, 10, rfl, by decide, rfl, lay_X0, Or.inl (tsg_in (i := 209) (by decide +kernel) rfl)⟩
theorem pff_X0_34 : PFF RX0 34 0 8 (.array .int) := ⟨RX0, TX0, 10, tyX0, rfl, by decide, rfl, rfl, lay_X0, tsg_in (i := 209) (by decide +kernel) rfl, tyX0_ok, nmX0, rfl, rfl⟩
theorem gf_X4_96 : GF RX4 96 0 8 := ⟨RX0, TX0, 10, rfl, by decide, rfl, lay_X0, Or.inr ⟨"ShadowRegistry", nws_in (i := 210) (by decide +kernel) rfl⟩⟩
theorem gf_X0_45 : GF RX0 45 0 9 := ⟨RX0, TX0, 10, rfl, by decide, rfl, lay_X0, Or.inl (tsg_in (i := 211) (by decide +kernel) rfl)⟩
theorem pf_X0_45 : PF RX0 45 0 9 .int := ⟨RX0, TX0, 10, tyX0, rfl, by decide, rfl, lay_X0, Or.inl (tsg_in (i := 211) (by decide +kernel) rfl), tyX0_ok, nmX0, rfl, rfl⟩
theorem gf_X3_133 : GF RX3 133 0 9 := ⟨RX0, TX0, 10, rfl, by decide, rfl, lay_X0, Or.inr ⟨"ShadowRegistry", nws_in (i := 212) (by decide +kernel) rfl⟩⟩
theorem pf_X3_133 : PF RX3 133 0 9 .int := ⟨RX0, TX0, 10, tyX0, rfl, by decide, rfl, lay_X0, Or.inr ⟨"ShadowRegistry", nws_in (i := 212) (by decide +kernel) rfl⟩, tyX0_ok, nmX0, rfl, rfl⟩
theorem gf_X7_25 : GF RX7 25 6 0 := ⟨RX7, TX7, 5, rfl, by decide, rfl, lay_X7, Or.inl (tsg_in (i := 244) (by decide +kernel) rfl)⟩
theorem pff_X7_25 : PFF RX7 25 6 0 (.object "ShadowRegistry$Tape") := ⟨RX7, TX7, 5, tyX7, rfl, by decide, rfl, rfl, lay_X7, tsg_in (i := 244) (by decide +kernel) rfl, tyX7_ok, nmX7, rfl, rfl⟩
theorem gf_X7_11 : GF RX7 11 6 1 := ⟨RX7, TX7, 5, rfl, by decide, rfl, lay_X7, Or.inl (tsg_in (i := 245) (by decide +kernel) rfl)⟩
theorem pff_X7_11 : PFF RX7 11 6 1 (.array (.object "ShadowRegistry$Kind")) := ⟨RX7, TX7, 5, tyX7, rfl, by decide, rfl, rfl, lay_X7, tsg_in (i := 245) (by decide +kernel) rfl, tyX7_ok, nmX7, rfl, rfl⟩
theorem gf_X7_17 : GF RX7 17 6 2 := ⟨RX7, TX7, 5, rfl, by decide, rfl, lay_X7, Or.inl (tsg_in (i := 246) (by decide +kernel) rfl)⟩
theorem pff_X7_17 : PFF RX7 17 6 2 (.array .int) := ⟨RX7, TX7, 5, tyX7, rfl, by decide, rfl, rfl, lay_X7, tsg_in (i := 246) (by decide +kernel) rfl, tyX7_ok, nmX7, rfl, rfl⟩
theorem gf_X7_21 : GF RX7 21 6 3 := ⟨RX7, TX7, 5, rfl, by decide, rfl, lay_X7, Or.inl (tsg_in (i := 247) (by decide +kernel) rfl)⟩
theorem pff_X7_21 : PFF RX7 21 6 3 (.array .long) := ⟨RX7, TX7, 5, tyX7, rfl, by decide, rfl, rfl, lay_X7, tsg_in (i := 247) (by decide +kernel) rfl, tyX7_ok, nmX7, rfl, rfl⟩
theorem gf_X7_29 : GF RX7 29 6 4 := ⟨RX7, TX7, 5, rfl, by decide, rfl, lay_X7, Or.inl (tsg_in (i := 248) (by decide +kernel) rfl)⟩
theorem pf_X7_29 : PF RX7 29 6 4 .int := ⟨RX7, TX7, 5, tyX7, rfl, by decide, rfl, lay_X7, Or.inl (tsg_in (i := 248) (by decide +kernel) rfl), tyX7_ok, nmX7, rfl, rfl⟩
theorem kf_X3_18 : KF RX3 18 42 := ⟨by decide, tsg_in (i := 266) (by decide +kernel) rfl⟩
theorem gf_X3_27 : GF RX3 27 2 0 := ⟨RX3, TX3, 9, rfl, by decide, rfl, lay_X3, Or.inl (tsg_in (i := 268) (by decide +kernel) rfl)⟩
theorem pff_X3_27 : PFF RX3 27 2 0 (.object "ShadowRegistry$Tokens") := ⟨RX3, TX3, 9, tyX3, rfl, by decide, rfl, rfl, lay_X3, tsg_in (i := 268) (by decide +kernel) rfl, tyX3_ok, nmX3, rfl, rfl⟩
theorem gf_X3_31 : GF RX3 31 2 1 := ⟨RX3, TX3, 9, rfl, by decide, rfl, lay_X3, Or.inl (tsg_in (i := 269) (by decide +kernel) rfl)⟩
theorem pff_X3_31 : PFF RX3 31 2 1 (.object "ShadowRegistry$Book") := ⟨RX3, TX3, 9, tyX3, rfl, by decide, rfl, rfl, lay_X3, tsg_in (i := 269) (by decide +kernel) rfl, tyX3_ok, nmX3, rfl, rfl⟩
theorem gf_X3_12 : GF RX3 12 2 2 := ⟨RX3, TX3, 9, rfl, by decide, rfl, lay_X3, Or.inl (tsg_in (i := 270) (by decide +kernel) rfl)⟩
theorem pff_X3_12 : PFF RX3 12 2 2 (.object "ShadowRegistry$Law") := ⟨RX3, TX3, 9, tyX3, rfl, by decide, rfl, rfl, lay_X3, tsg_in (i := 270) (by decide +kernel) rfl, tyX3_ok, nmX3, rfl, rfl⟩
theorem gf_X3_49 : GF RX3 49 2 3 := ⟨RX3, TX3, 9, rfl, by decide, rfl, lay_X3, Or.inl (tsg_in (i := 271) (by decide +kernel) rfl)⟩
theorem pf_X3_49 : PF RX3 49 2 3 .int := ⟨RX3, TX3, 9, tyX3, rfl, by decide, rfl, lay_X3, Or.inl (tsg_in (i := 271) (by decide +kernel) rfl), tyX3_ok, nmX3, rfl, rfl⟩
theorem gf_X3_57 : GF RX3 57 2 4 := ⟨RX3, TX3, 9, rfl, by decide, rfl, lay_X3, Or.inl (tsg_in (i := 272) (by decide +kernel) rfl)⟩
theorem pf_X3_57 : PF RX3 57 2 4 .int := ⟨RX3, TX3, 9, tyX3, rfl, by decide, rfl, lay_X3, Or.inl (tsg_in (i := 272) (by decide +kernel) rfl), tyX3_ok, nmX3, rfl, rfl⟩
theorem gf_X3_24 : GF RX3 24 2 5 := ⟨RX3, TX3, 9, rfl, by decide, rfl, lay_X3, Or.inl (tsg_in (i := 273) (by decide +kernel) rfl)⟩
theorem pf_X3_24 : PF RX3 24 2 5 (.object "ShadowRegistry$Kind") := ⟨RX3, TX3, 9, tyX3, rfl, by decide, rfl, lay_X3, Or.inl (tsg_in (i := 273) (by decide +kernel) rfl), tyX3_ok, nmX3, rfl, rfl⟩
theorem gf_X3_45 : GF RX3 45 2 6 := ⟨RX3, TX3, 9, rfl, by decide, rfl, lay_X3, Or.inl (tsg_in (i := 274) (by decide +kernel) rfl)⟩
theorem pf_X3_45 : PF RX3 45 2 6 .boolean := ⟨RX3, TX3, 9, tyX3, rfl, by decide, rfl, lay_X3, Or.inl (tsg_in (i := 274) (by decide +kernel) rfl), tyX3_ok, nmX3, rfl, rfl⟩
theorem gf_X3_64 : GF RX3 64 2 7 := ⟨RX3, TX3, 9, rfl, by decide, rfl, lay_X3, Or.inl (tsg_in (i := 275) (by decide +kernel) rfl)⟩
theorem pf_X3_64 : PF RX3 64 2 7 .int := ⟨RX3, TX3, 9, tyX3, rfl, by decide, rfl, lay_X3, Or.inl (tsg_in (i := 275) (by decide +kernel) rfl), tyX3_ok, nmX3, rfl, rfl⟩
theorem gf_X3_67 : GF RX3 67 2 8 := ⟨RX3, TX3, 9, rfl, by decide, rfl, lay_X3, Or.inl (tsg_in (i := 276) (by decide +kernel) rfl)⟩
theorem pf_X3_67 : PF RX3 67 2 8 .int := ⟨RX3, TX3, 9, tyX3, rfl, by decide, rfl, lay_X3, Or.inl (tsg_in (i := 276) (by decide +kernel) rfl), tyX3_ok, nmX3, rfl, rfl⟩
theorem gf_X8_86 : GF RX8 86 2 8 := ⟨RX3, TX3, 9, rfl, by decide, rfl, lay_X3, Or.inr ⟨"ShadowRegistry", nws_in (i := 277) (by decide +kernel) rfl⟩⟩
theorem pf_X8_86 : PF RX8 86 2 8 .int := ⟨RX3, TX3, 9, tyX3, rfl, by decide, rfl, lay_X3, Or.inr ⟨"ShadowRegistry", nws_in (i := 277) (by decide +kernel) rfl⟩, tyX3_ok, nmX3, rfl, rfl⟩
theorem gf_X4_15 : GF RX4 15 3 0 := ⟨RX4, TX4, 3, rfl, by decide, rfl, lay_X4, Or.inl (tsg_in (i := 303) (by decide +kernel) rfl)⟩
theorem pff_X4_15 : PFF RX4 15 3 0 (.object "ShadowRegistry$Book") := ⟨RX4, TX4, 3, tyX4, rfl, by decide, rfl, rfl, lay_X4, tsg_in (i := 303) (by decide +kernel) rfl, tyX4_ok, nmX4, rfl, rfl⟩
theorem gf_X4_9 : GF RX4 9 3 1 := ⟨RX4, TX4, 3, rfl, by decide, rfl, lay_X4, Or.inl (tsg_in (i := 304) (by decide +kernel) rfl)⟩
theorem pff_X4_9 : PFF RX4 9 3 1 (.array .int) := ⟨RX4, TX4, 3, tyX4, rfl, by decide, rfl, rfl, lay_X4, tsg_in (i := 304) (by decide +kernel) rfl, tyX4_ok, nmX4, rfl, rfl⟩
theorem gf_X4_81 : GF RX4 81 3 2 := ⟨RX4, TX4, 3, rfl, by decide, rfl, lay_X4, Or.inl (tsg_in (i := 305) (by decide +kernel) rfl)⟩
theorem pf_X4_81 : PF RX4 81 3 2 .int := ⟨RX4, TX4, 3, tyX4, rfl, by decide, rfl, lay_X4, Or.inl (tsg_in (i := 305) (by decide +kernel) rfl), tyX4_ok, nmX4, rfl, rfl⟩
theorem gf_X5_43 : GF RX5 43 4 0 := ⟨RX5, TX5, 11, rfl, by decide, rfl, lay_X5, Or.inl (tsg_in (i := 319) (by decide +kernel) rfl)⟩
theorem pf_X5_43 : PF RX5 43 4 0 .int := ⟨RX5, TX5, 11, tyX5, rfl, by decide, rfl, lay_X5, Or.inl (tsg_in (i := 319) (by decide +kernel) rfl), tyX5_ok, nmX5, rfl, rfl⟩
theorem gf_X8_95 : GF RX8 95 4 0 := ⟨RX5, TX5, 11, rfl, by decide, rfl, lay_X5, Or.inr ⟨"ShadowRegistry", nws_in (i := 320) (by decide +kernel) rfl⟩⟩
theorem pf_X8_95 : PF RX8 95 4 0 .int := ⟨RX5, TX5, 11, tyX5, rfl, by decide, rfl, lay_X5, Or.inr ⟨"ShadowRegistry", nws_in (i := 320) (by decide +kernel) rfl⟩, tyX5_ok, nmX5, rfl, rfl⟩
theorem gf_X5_46 : GF RX5 46 4 1 := ⟨RX5, TX5, 11, rfl, by decide, rfl, lay_X5, Or.inl (tsg_in (i := 321) (by decide +kernel) rfl)⟩
theorem pf_X5_46 : PF RX5 46 4 1 .int := ⟨RX5, TX5, 11, tyX5, rfl, by decide, rfl, lay_X5, Or.inl (tsg_in (i := 321) (by decide +kernel) rfl), tyX5_ok, nmX5, rfl, rfl⟩
theorem gf_X4_38 : GF RX4 38 4 1 := ⟨RX5, TX5, 11, rfl, by decide, rfl, lay_X5, Or.inr ⟨"ShadowRegistry", nws_in (i := 322) (by decide +kernel) rfl⟩⟩
theorem pf_X4_38 : PF RX4 38 4 1 .int := ⟨RX5, TX5, 11, tyX5, rfl, by decide, rfl, lay_X5, Or.inr ⟨"ShadowRegistry", nws_in (i := 322) (by decide +kernel) rfl⟩, tyX5_ok, nmX5, rfl, rfl⟩
theorem gf_X8_101 : GF RX8 101 4 1 := ⟨RX5, TX5, 11, rfl, by decide, rfl, lay_X5, Or.inr ⟨"ShadowRegistry", nws_in (i := 323) (by decide +kernel) rfl⟩⟩
theorem pf_X8_101 : PF RX8 101 4 1 .int := ⟨RX5, TX5, 11, tyX5, rfl, by decide, rfl, lay_X5, Or.inr ⟨"ShadowRegistry", nws_in (i := 323) (by decide +kernel) rfl⟩, tyX5_ok, nmX5, rfl, rfl⟩
theorem gf_X5_49 : GF RX5 49 4 2 := ⟨RX5, TX5, 11, rfl, by decide, rfl, lay_X5, Or.inl (tsg_in (i := 324) (by decide +kernel) rfl)⟩
theorem pf_X5_49 : PF RX5 49 4 2 .int := ⟨RX5, TX5, 11, tyX5, rfl, by decide, rfl, lay_X5, Or.inl (tsg_in (i := 324) (by decide +kernel) rfl), tyX5_ok, nmX5, rfl, rfl⟩
theorem gf_X4_33 : GF RX4 33 4 2 := ⟨RX5, TX5, 11, rfl, by decide, rfl, lay_X5, Or.inr ⟨"ShadowRegistry", nws_in (i := 325) (by decide +kernel) rfl⟩⟩
theorem pf_X4_33 : PF RX4 33 4 2 .int := ⟨RX5, TX5, 11, tyX5, rfl, by decide, rfl, lay_X5, Or.inr ⟨"ShadowRegistry", nws_in (i := 325) (by decide +kernel) rfl⟩, tyX5_ok, nmX5, rfl, rfl⟩
theorem gf_X8_104 : GF RX8 104 4 2 := ⟨RX5, TX5, 11, rfl, by decide, rfl, lay_X5, Or.inr ⟨"ShadowRegistry", nws_in (i := 326) (by decide +kernel) rfl⟩⟩
theorem pf_X8_104 : PF RX8 104 4 2 .int := ⟨RX5, TX5, 11, tyX5, rfl, by decide, rfl, lay_X5, Or.inr ⟨"ShadowRegistry", nws_in (i := 326) (by decide +kernel) rfl⟩, tyX5_ok, nmX5, rfl, rfl⟩
theorem gf_X5_61 : GF RX5 61 4 3 := ⟨RX5, TX5, 11, rfl, by decide, rfl, lay_X5, Or.inl (tsg_in (i := 327) (by decide +kernel) rfl)⟩
theorem pf_X5_61 : PF RX5 61 4 3 .int := ⟨RX5, TX5, 11, tyX5, rfl, by decide, rfl, lay_X5, Or.inl (tsg_in (i := 327) (by decide +kernel) rfl), tyX5_ok, nmX5, rfl, rfl⟩
theorem gf_X8_107 : GF RX8 107 4 3 := ⟨RX5, TX5, 11, rfl, by decide, rfl, lay_X5, Or.inr ⟨"ShadowRegistry", nws_in (i := 328) (by decide +kernel) rfl⟩⟩
theorem pf_X8_107 : PF RX8 107 4 3 .int := ⟨RX5, TX5, 11, tyX5, rfl, by decide, rfl, lay_X5, Or.inr ⟨"ShadowRegistry", nws_in (i := 328) (by decide +kernel) rfl⟩, tyX5_ok, nmX5, rfl, rfl⟩
theorem gf_X5_9 : GF RX5 9 4 4 := ⟨RX5, TX5, 11, rfl, by decide, rfl, lay_X5, Or.inl (tsg_in (i := 329) (by decide +kernel) rfl)⟩
theorem pff_X5_9 : PFF RX5 9 4 4 (.array .int) := ⟨RX5, TX5, 11, tyX5, rfl, by decide, rfl, rfl, lay_X5, tsg_in (i := 329) (by decide +kernel) rfl, tyX5_ok, nmX5, rfl, rfl⟩
theorem gf_X5_15 : GF RX5 15 4 5 := ⟨RX5, TX5, 11, rfl, by decide, rfl, lay_X5, Or.inl (tsg_in (i := 330) (by decide +kernel) rfl)⟩
theorem pff_X5_15 : PFF RX5 15 4 5 (.array .int) := ⟨RX5, TX5, 11, tyX5, rfl, by decide, rfl, rfl, lay_X5, tsg_in (i := 330) (by decide +kernel) rfl, tyX5_ok, nmX5, rfl, rfl⟩
theorem gf_X5_18 : GF RX5 18 4 6 := ⟨RX5, TX5, 11, rfl, by decide, rfl, lay_X5, Or.inl (tsg_in (i := 331) (by decide +kernel) rfl)⟩
theorem pff_X5_18 : PFF RX5 18 4 6 (.array .int) := ⟨RX5, TX5, 11, tyX5, rfl, by decide, rfl, rfl, lay_X5, tsg_in (i := 331) (by decide +kernel) rfl, tyX5_ok, nmX5, rfl, rfl⟩
theorem gf_X5_21 : GF RX5 21 4 7 := ⟨RX5, TX5, 11, rfl, by decide, rfl, lay_X5, Or.inl (tsg_in (i := 332) (by decide +kernel) rfl)⟩
theorem pff_X5_21 : PFF RX5 21 4 7 (.array .int) := ⟨RX5, TX5, 11, tyX5, rfl, by decide, rfl, rfl, lay_X5, tsg_in (i := 332) (by decide +kernel) rfl, tyX5_ok, nmX5, rfl, rfl⟩
theorem gf_X5_24 : GF RX5 24 4 8 := ⟨RX5, TX5, 11, rfl, by decide, rfl, lay_X5, Or.inl (tsg_in (i := 333) (by decide +kernel) rfl)⟩
theorem pff_X5_24 : PFF RX5 24 4 8 (.array .int) := ⟨RX5, TX5, 11, tyX5, rfl, by decide, rfl, rfl, lay_X5, tsg_in (i := 333) (by decide +kernel) rfl, tyX5_ok, nmX5, rfl, rfl⟩
theorem gf_X5_27 : GF RX5 27 4 9 := ⟨RX5, TX5, 11, rfl, by decide, rfl, lay_X5, Or.inl (tsg_in (i := 334) (by decide +kernel) rfl)⟩
theorem pff_X5_27 : PFF RX5 27 4 9 (.array .int) := ⟨RX5, TX5, 11, tyX5, rfl, by decide, rfl, rfl, lay_X5, tsg_in (i := 334) (by decide +kernel) rfl, tyX5_ok, nmX5, rfl, rfl⟩
theorem gf_X5_30 : GF RX5 30 4 10 := ⟨RX5, TX5, 11, rfl, by decide, rfl, lay_X5, Or.inl (tsg_in (i := 335) (by decide +kernel) rfl)⟩
theorem pff_X5_30 : PFF RX5 30 4 10 (.array .int) := ⟨RX5, TX5, 11, tyX5, rfl, by decide, rfl, rfl, lay_X5, tsg_in (i := 335) (by decide +kernel) rfl, tyX5_ok, nmX5, rfl, rfl⟩
theorem gf_X8_12 : GF RX8 12 7 0 := ⟨RX8, TX8, 8, rfl, by decide, rfl, lay_X8, Or.inl (tsg_in (i := 359) (by decide +kernel) rfl)⟩
theorem pff_X8_12 : PFF RX8 12 7 0 (.object "ShadowRegistry$Tape") := ⟨RX8, TX8, 8, tyX8, rfl, by decide, rfl, rfl, lay_X8, tsg_in (i := 359) (by decide +kernel) rfl, tyX8_ok, nmX8, rfl, rfl⟩
theorem gf_X8_19 : GF RX8 19 7 1 := ⟨RX8, TX8, 8, rfl, by decide, rfl, lay_X8, Or.inl (tsg_in (i := 360) (by decide +kernel) rfl)⟩
theorem pff_X8_19 : PFF RX8 19 7 1 (.object "ShadowRegistry$Book") := ⟨RX8, TX8, 8, tyX8, rfl, by decide, rfl, rfl, lay_X8, tsg_in (i := 360) (by decide +kernel) rfl, tyX8_ok, nmX8, rfl, rfl⟩
theorem gf_X8_33 : GF RX8 33 7 2 := ⟨RX8, TX8, 8, rfl, by decide, rfl, lay_X8, Or.inl (tsg_in (i := 361) (by decide +kernel) rfl)⟩
theorem pff_X8_33 : PFF RX8 33 7 2 (.object "ShadowRegistry$Parser") := ⟨RX8, TX8, 8, tyX8, rfl, by decide, rfl, rfl, lay_X8, tsg_in (i := 361) (by decide +kernel) rfl, tyX8_ok, nmX8, rfl, rfl⟩
theorem gf_X8_37 : GF RX8 37 7 3 := ⟨RX8, TX8, 8, rfl, by decide, rfl, lay_X8, Or.inl (tsg_in (i := 362) (by decide +kernel) rfl)⟩
theorem pff_X8_37 : PFF RX8 37 7 3 (.object "ShadowRegistry$Book") := ⟨RX8, TX8, 8, tyX8, rfl, by decide, rfl, rfl, lay_X8, tsg_in (i := 362) (by decide +kernel) rfl, tyX8_ok, nmX8, rfl, rfl⟩
theorem gf_X8_45 : GF RX8 45 7 4 := ⟨RX8, TX8, 8, rfl, by decide, rfl, lay_X8, Or.inl (tsg_in (i := 363) (by decide +kernel) rfl)⟩
theorem pff_X8_45 : PFF RX8 45 7 4 (.object "ShadowRegistry$Reckoner") := ⟨RX8, TX8, 8, tyX8, rfl, by decide, rfl, rfl, lay_X8, tsg_in (i := 363) (by decide +kernel) rfl, tyX8_ok, nmX8, rfl, rfl⟩
theorem gf_X8_52 : GF RX8 52 7 5 := ⟨RX8, TX8, 8, rfl, by decide, rfl, lay_X8, Or.inl (tsg_in (i := 364) (by decide +kernel) rfl)⟩
theorem pff_X8_52 : PFF RX8 52 7 5 (.object "ShadowRegistry$Street") := ⟨RX8, TX8, 8, tyX8, rfl, by decide, rfl, rfl, lay_X8, tsg_in (i := 364) (by decide +kernel) rfl, tyX8_ok, nmX8, rfl, rfl⟩
theorem gf_X8_56 : GF RX8 56 7 6 := ⟨RX8, TX8, 8, rfl, by decide, rfl, lay_X8, Or.inl (tsg_in (i := 365) (by decide +kernel) rfl)⟩
theorem pff_X8_56 : PFF RX8 56 7 6 (.object "ShadowRegistry$Street") := ⟨RX8, TX8, 8, tyX8, rfl, by decide, rfl, rfl, lay_X8, tsg_in (i := 365) (by decide +kernel) rfl, tyX8_ok, nmX8, rfl, rfl⟩
theorem gf_X8_59 : GF RX8 59 7 7 := ⟨RX8, TX8, 8, rfl, by decide, rfl, lay_X8, Or.inl (tsg_in (i := 366) (by decide +kernel) rfl)⟩
theorem pf_X8_59 : PF RX8 59 7 7 .int := ⟨RX8, TX8, 8, tyX8, rfl, by decide, rfl, lay_X8, Or.inl (tsg_in (i := 366) (by decide +kernel) rfl), tyX8_ok, nmX8, rfl, rfl⟩
theorem kf_X7_40 : KF RX7 40 41 := ⟨by decide, tsg_in (i := 408) (by decide +kernel) rfl⟩
theorem kf_X7_56 : KF RX7 56 42 := ⟨by decide, tsg_in (i := 414) (by decide +kernel) rfl⟩
theorem sk_X7_80 : Cond.fieldLinkNest RX7 80 RX8 "KINDS" "[LShadowRegistry$Kind;" "ShadowRegistry" ∈ NWs := nws_in (i := 429) (by decide +kernel) rfl
theorem kf_X7_87 : KF RX7 87 39 := ⟨by decide, tsg_in (i := 431) (by decide +kernel) rfl⟩
theorem kf_X7_92 : KF RX7 92 40 := ⟨by decide, tsg_in (i := 438) (by decide +kernel) rfl⟩
theorem kf_X7_95 : KF RX7 95 37 := ⟨by decide, tsg_in (i := 444) (by decide +kernel) rfl⟩
theorem kf_X7_98 : KF RX7 98 38 := ⟨by decide, tsg_in (i := 446) (by decide +kernel) rfl⟩
theorem kf_X7_105 : KF RX7 105 24 := ⟨by decide, tsg_in (i := 451) (by decide +kernel) rfl⟩
theorem kf_X7_108 : KF RX7 108 25 := ⟨by decide, tsg_in (i := 453) (by decide +kernel) rfl⟩
theorem kf_X7_111 : KF RX7 111 26 := ⟨by decide, tsg_in (i := 455) (by decide +kernel) rfl⟩
theorem kf_X7_114 : KF RX7 114 27 := ⟨by decide, tsg_in (i := 457) (by decide +kernel) rfl⟩
theorem kf_X7_117 : KF RX7 117 28 := ⟨by decide, tsg_in (i := 459) (by decide +kernel) rfl⟩
theorem kf_X7_120 : KF RX7 120 29 := ⟨by decide, tsg_in (i := 461) (by decide +kernel) rfl⟩
theorem kf_X7_123 : KF RX7 123 30 := ⟨by decide, tsg_in (i := 463) (by decide +kernel) rfl⟩
theorem kf_X7_126 : KF RX7 126 31 := ⟨by decide, tsg_in (i := 465) (by decide +kernel) rfl⟩
theorem kf_X7_129 : KF RX7 129 32 := ⟨by decide, tsg_in (i := 467) (by decide +kernel) rfl⟩
theorem kf_X7_132 : KF RX7 132 33 := ⟨by decide, tsg_in (i := 469) (by decide +kernel) rfl⟩
theorem kf_X7_135 : KF RX7 135 34 := ⟨by decide, tsg_in (i := 471) (by decide +kernel) rfl⟩
theorem kf_X7_138 : KF RX7 138 35 := ⟨by decide, tsg_in (i := 473) (by decide +kernel) rfl⟩
theorem kf_X7_141 : KF RX7 141 36 := ⟨by decide, tsg_in (i := 475) (by decide +kernel) rfl⟩
theorem kf_X3_70 : KF RX3 70 41 := ⟨by decide, tsg_in (i := 489) (by decide +kernel) rfl⟩
theorem kf_X3_73 : KF RX3 73 0 := ⟨by decide, tsg_in (i := 490) (by decide +kernel) rfl⟩
theorem kf_X3_89 : KF RX3 89 39 := ⟨by decide, tsg_in (i := 508) (by decide +kernel) rfl⟩
theorem kf_X3_103 : KF RX3 103 1 := ⟨by decide, tsg_in (i := 517) (by decide +kernel) rfl⟩
theorem kf_X3_106 : KF RX3 106 40 := ⟨by decide, tsg_in (i := 519) (by decide +kernel) rfl⟩
theorem kf_X3_115 : KF RX3 115 2 := ⟨by decide, tsg_in (i := 525) (by decide +kernel) rfl⟩
theorem kf_X3_124 : KF RX3 124 3 := ⟨by decide, tsg_in (i := 536) (by decide +kernel) rfl⟩
theorem kf_X3_159 : KF RX3 159 4 := ⟨by decide, tsg_in (i := 542) (by decide +kernel) rfl⟩
theorem kf_X3_171 : KF RX3 171 5 := ⟨by decide, tsg_in (i := 548) (by decide +kernel) rfl⟩
theorem kf_X3_264 : KF RX3 264 11 := ⟨by decide, tsg_in (i := 566) (by decide +kernel) rfl⟩
theorem kf_X3_267 : KF RX3 267 15 := ⟨by decide, tsg_in (i := 568) (by decide +kernel) rfl⟩
theorem kf_X3_270 : KF RX3 270 12 := ⟨by decide, tsg_in (i := 570) (by decide +kernel) rfl⟩
theorem kf_X3_273 : KF RX3 273 13 := ⟨by decide, tsg_in (i := 572) (by decide +kernel) rfl⟩
theorem kf_X3_276 : KF RX3 276 14 := ⟨by decide, tsg_in (i := 574) (by decide +kernel) rfl⟩
theorem kf_X3_279 : KF RX3 279 16 := ⟨by decide, tsg_in (i := 576) (by decide +kernel) rfl⟩
theorem kf_X3_252 : KF RX3 252 31 := ⟨by decide, tsg_in (i := 578) (by decide +kernel) rfl⟩
theorem kf_X3_282 : KF RX3 282 24 := ⟨by decide, tsg_in (i := 583) (by decide +kernel) rfl⟩
theorem kf_X3_285 : KF RX3 285 25 := ⟨by decide, tsg_in (i := 584) (by decide +kernel) rfl⟩
theorem kf_X3_288 : KF RX3 288 22 := ⟨by decide, tsg_in (i := 585) (by decide +kernel) rfl⟩
theorem kf_X3_291 : KF RX3 291 23 := ⟨by decide, tsg_in (i := 587) (by decide +kernel) rfl⟩
theorem kf_X3_297 : KF RX3 297 29 := ⟨by decide, tsg_in (i := 593) (by decide +kernel) rfl⟩
theorem kf_X3_258 : KF RX3 258 32 := ⟨by decide, tsg_in (i := 594) (by decide +kernel) rfl⟩
theorem kf_X3_261 : KF RX3 261 33 := ⟨by decide, tsg_in (i := 595) (by decide +kernel) rfl⟩
theorem kf_X3_249 : KF RX3 249 30 := ⟨by decide, tsg_in (i := 596) (by decide +kernel) rfl⟩
theorem kf_X3_177 : KF RX3 177 6 := ⟨by decide, tsg_in (i := 597) (by decide +kernel) rfl⟩
theorem kf_X3_180 : KF RX3 180 7 := ⟨by decide, tsg_in (i := 599) (by decide +kernel) rfl⟩
theorem kf_X3_183 : KF RX3 183 8 := ⟨by decide, tsg_in (i := 601) (by decide +kernel) rfl⟩
theorem kf_X3_186 : KF RX3 186 9 := ⟨by decide, tsg_in (i := 603) (by decide +kernel) rfl⟩
theorem kf_X3_139 : KF RX3 139 10 := ⟨by decide, tsg_in (i := 605) (by decide +kernel) rfl⟩
theorem kf_X3_205 : KF RX3 205 19 := ⟨by decide, tsg_in (i := 619) (by decide +kernel) rfl⟩
theorem kf_X3_212 : KF RX3 212 26 := ⟨by decide, tsg_in (i := 621) (by decide +kernel) rfl⟩
theorem kf_X3_215 : KF RX3 215 27 := ⟨by decide, tsg_in (i := 622) (by decide +kernel) rfl⟩
theorem kf_X3_218 : KF RX3 218 17 := ⟨by decide, tsg_in (i := 623) (by decide +kernel) rfl⟩
theorem kf_X3_221 : KF RX3 221 18 := ⟨by decide, tsg_in (i := 625) (by decide +kernel) rfl⟩
theorem kf_X3_231 : KF RX3 231 34 := ⟨by decide, tsg_in (i := 630) (by decide +kernel) rfl⟩
theorem kf_X3_234 : KF RX3 234 35 := ⟨by decide, tsg_in (i := 631) (by decide +kernel) rfl⟩
theorem kf_X3_237 : KF RX3 237 36 := ⟨by decide, tsg_in (i := 632) (by decide +kernel) rfl⟩
theorem kf_X3_240 : KF RX3 240 37 := ⟨by decide, tsg_in (i := 633) (by decide +kernel) rfl⟩
theorem kf_X3_243 : KF RX3 243 38 := ⟨by decide, tsg_in (i := 634) (by decide +kernel) rfl⟩
theorem kf_X3_202 : KF RX3 202 20 := ⟨by decide, tsg_in (i := 635) (by decide +kernel) rfl⟩
theorem kf_X3_192 : KF RX3 192 21 := ⟨by decide, tsg_in (i := 637) (by decide +kernel) rfl⟩
theorem kf_X3_82 : KF RX3 82 28 := ⟨by decide, tsg_in (i := 647) (by decide +kernel) rfl⟩
theorem gf_X10_73 : GF RX10 73 8 0 := ⟨RX9, TX9, 13, rfl, by decide, rfl, lay_X9, Or.inr ⟨"ShadowRegistryModel", nws_in (i := 1197) (by decide +kernel) rfl⟩⟩
theorem pf_X10_73 : PF RX10 73 8 0 .int := ⟨RX9, TX9, 13, tyX9, rfl, by decide, rfl, lay_X9, Or.inr ⟨"ShadowRegistryModel", nws_in (i := 1197) (by decide +kernel) rfl⟩, tyX9_ok, nmX9, rfl, rfl⟩
theorem gf_X9_9 : GF RX9 9 8 1 := ⟨RX9, TX9, 13, rfl, by decide, rfl, lay_X9, Or.inl (tsg_in (i := 1198) (by decide +kernel) rfl)⟩
theorem pff_X9_9 : PFF RX9 9 8 1 (.array .long) := ⟨RX9, TX9, 13, tyX9, rfl, by decide, rfl, rfl, lay_X9, tsg_in (i := 1198) (by decide +kernel) rfl, tyX9_ok, nmX9, rfl, rfl⟩
theorem gf_X10_335 : GF RX10 335 8 1 := ⟨RX9, TX9, 13, rfl, by decide, rfl, lay_X9, Or.inr ⟨"ShadowRegistryModel", nws_in (i := 1199) (by decide +kernel) rfl⟩⟩
theorem gf_X9_15 : GF RX9 15 8 2 := ⟨RX9, TX9, 13, rfl, by decide, rfl, lay_X9, Or.inl (tsg_in (i := 1200) (by decide +kernel) rfl)⟩
theorem pff_X9_15 : PFF RX9 15 8 2 (.array .int) := ⟨RX9, TX9, 13, tyX9, rfl, by decide, rfl, rfl, lay_X9, tsg_in (i := 1200) (by decide +kernel) rfl, tyX9_ok, nmX9, rfl, rfl⟩
theorem gf_X10_344 : GF RX10 344 8 2 := ⟨RX9, TX9, 13, rfl, by decide, rfl, lay_X9, Or.inr ⟨"ShadowRegistryModel", nws_in (i := 1201) (by decide +kernel) rfl⟩⟩
theorem gf_X9_19 : GF RX9 19 8 3 := ⟨RX9, TX9, 13, rfl, by decide, rfl, lay_X9, Or.inl (tsg_in (i := 1202) (by decide +kernel) rfl)⟩
theorem pff_X9_19 : PFF RX9 19 8 3 (.array .int) := ⟨RX9, TX9, 13, tyX9, rfl, by decide, rfl, rfl, lay_X9, tsg_in (i := 1202) (by decide +kernel) rfl, tyX9_ok, nmX9, rfl, rfl⟩
theorem gf_X10_347 : GF RX10 347 8 3 := ⟨RX9, TX9, 13, rfl, by decide, rfl, lay_X9, Or.inr ⟨"ShadowRegistryModel", nws_in (i := 1203) (by decide +kernel) rfl⟩⟩
theorem gf_X10_179 : GF RX10 179 8 4 := ⟨RX9, TX9, 13, rfl, by decide, rfl, lay_X9, Or.inr ⟨"ShadowRegistryModel", nws_in (i := 1204) (by decide +kernel) rfl⟩⟩
theorem pf_X10_179 : PF RX10 179 8 4 .int := ⟨RX9, TX9, 13, tyX9, rfl, by decide, rfl, lay_X9, Or.inr ⟨"ShadowRegistryModel", nws_in (i := 1204) (by decide +kernel) rfl⟩, tyX9_ok, nmX9, rfl, rfl⟩
theorem gf_X9_22 : GF RX9 22 8 5 := ⟨RX9, TX9, 13, rfl, by decide, rfl, lay_X9, Or.inl (tsg_in (i := 1205) (by decide +kernel) rfl)⟩
theorem pff_X9_22 : PFF RX9 22 8 5 (.array .int) := ⟨RX9, TX9, 13, tyX9, rfl, by decide, rfl, rfl, lay_X9, tsg_in (i := 1205) (by decide +kernel) rfl, tyX9_ok, nmX9, rfl, rfl⟩
theorem gf_X10_167 : GF RX10 167 8 5 := ⟨RX9, TX9, 13, rfl, by decide, rfl, lay_X9, Or.inr ⟨"ShadowRegistryModel", nws_in (i := 1206) (by decide +kernel) rfl⟩⟩
theorem gf_X9_25 : GF RX9 25 8 6 := ⟨RX9, TX9, 13, rfl, by decide, rfl, lay_X9, Or.inl (tsg_in (i := 1207) (by decide +kernel) rfl)⟩
theorem pff_X9_25 : PFF RX9 25 8 6 (.array .int) := ⟨RX9, TX9, 13, tyX9, rfl, by decide, rfl, rfl, lay_X9, tsg_in (i := 1207) (by decide +kernel) rfl, tyX9_ok, nmX9, rfl, rfl⟩
theorem gf_X10_139 : GF RX10 139 8 6 := ⟨RX9, TX9, 13, rfl, by decide, rfl, lay_X9, Or.inr ⟨"ShadowRegistryModel", nws_in (i := 1208) (by decide +kernel) rfl⟩⟩
theorem gf_X9_28 : GF RX9 28 8 7 := ⟨RX9, TX9, 13, rfl, by decide, rfl, lay_X9, Or.inl (tsg_in (i := 1209) (by decide +kernel) rfl)⟩
theorem pff_X9_28 : PFF RX9 28 8 7 (.array .int) := ⟨RX9, TX9, 13, tyX9, rfl, by decide, rfl, rfl, lay_X9, tsg_in (i := 1209) (by decide +kernel) rfl, tyX9_ok, nmX9, rfl, rfl⟩
theorem gf_X10_192 : GF RX10 192 8 7 := ⟨RX9, TX9, 13, rfl, by decide, rfl, lay_X9, Or.inr ⟨"ShadowRegistryModel", nws_in (i := 1210) (by decide +kernel) rfl⟩⟩
theorem gf_X9_31 : GF RX9 31 8 8 := ⟨RX9, TX9, 13, rfl, by decide, rfl, lay_X9, Or.inl (tsg_in (i := 1211) (by decide +kernel) rfl)⟩
theorem pff_X9_31 : PFF RX9 31 8 8 (.array .int) := ⟨RX9, TX9, 13, tyX9, rfl, by decide, rfl, rfl, lay_X9, tsg_in (i := 1211) (by decide +kernel) rfl, tyX9_ok, nmX9, rfl, rfl⟩
theorem gf_X10_195 : GF RX10 195 8 8 := ⟨RX9, TX9, 13, rfl, by decide, rfl, lay_X9, Or.inr ⟨"ShadowRegistryModel", nws_in (i := 1212) (by decide +kernel) rfl⟩⟩
theorem gf_X9_34 : GF RX9 34 8 9 := ⟨RX9, TX9, 13, rfl, by decide, rfl, lay_X9, Or.inl (tsg_in (i := 1213) (by decide +kernel) rfl)⟩
theorem pff_X9_34 : PFF RX9 34 8 9 (.array .int) := ⟨RX9, TX9, 13, tyX9, rfl, by decide, rfl, rfl, lay_X9, tsg_in (i := 1213) (by decide +kernel) rfl, tyX9_ok, nmX9, rfl, rfl⟩
theorem gf_X10_198 : GF RX10 198 8 9 := ⟨RX9, TX9, 13, rfl, by decide, rfl, lay_X9, Or.inr ⟨"ShadowRegistryModel", nws_in (i := 1214) (by decide +kernel) rfl⟩⟩
theorem gf_X9_37 : GF RX9 37 8 10 := ⟨RX9, TX9, 13, rfl, by decide, rfl, lay_X9, Or.inl (tsg_in (i := 1215) (by decide +kernel) rfl)⟩
theorem pff_X9_37 : PFF RX9 37 8 10 (.array .int) := ⟨RX9, TX9, 13, tyX9, rfl, by decide, rfl, rfl, lay_X9, tsg_in (i := 1215) (by decide +kernel) rfl, tyX9_ok, nmX9, rfl, rfl⟩
theorem gf_X10_204 : GF RX10 204 8 10 := ⟨RX9, TX9, 13, rfl, by decide, rfl, lay_X9, Or.inr ⟨"ShadowRegistryModel", nws_in (i := 1216) (by decide +kernel) rfl⟩⟩
theorem gf_X9_40 : GF RX9 40 8 11 := ⟨RX9, TX9, 13, rfl, by decide, rfl, lay_X9, Or.inl (tsg_in (i := 1217) (by decide +kernel) rfl)⟩
theorem pff_X9_40 : PFF RX9 40 8 11 (.array .int) := ⟨RX9, TX9, 13, tyX9, rfl, by decide, rfl, rfl, lay_X9, tsg_in (i := 1217) (by decide +kernel) rfl, tyX9_ok, nmX9, rfl, rfl⟩
theorem gf_X10_207 : GF RX10 207 8 11 := ⟨RX9, TX9, 13, rfl, by decide, rfl, lay_X9, Or.inr ⟨"ShadowRegistryModel", nws_in (i := 1218) (by decide +kernel) rfl⟩⟩
theorem gf_X10_272 : GF RX10 272 8 12 := ⟨RX9, TX9, 13, rfl, by decide, rfl, lay_X9, Or.inr ⟨"ShadowRegistryModel", nws_in (i := 1219) (by decide +kernel) rfl⟩⟩
theorem pf_X10_272 : PF RX10 272 8 12 .int := ⟨RX9, TX9, 13, tyX9, rfl, by decide, rfl, lay_X9, Or.inr ⟨"ShadowRegistryModel", nws_in (i := 1219) (by decide +kernel) rfl⟩, tyX9_ok, nmX9, rfl, rfl⟩
theorem gf_X10_70 : GF RX10 70 9 0 := ⟨RX10, TX10, 26, rfl, by decide, rfl, lay_X10, Or.inl (tsg_in (i := 1247) (by decide +kernel) rfl)⟩
theorem pf_X10_70 : PF RX10 70 9 0 .int := ⟨RX10, TX10, 26, tyX10, rfl, by decide, rfl, lay_X10, Or.inl (tsg_in (i := 1247) (by decide +kernel) rfl), tyX10_ok, nmX10, rfl, rfl⟩
theorem gf_X10_9 : GF RX10 9 9 1 := ⟨RX10, TX10, 26, rfl, by decide, rfl, lay_X10, Or.inl (tsg_in (i := 1248) (by decide +kernel) rfl)⟩
theorem pff_X10_9 : PFF RX10 9 9 1 (.array .int) := ⟨RX10, TX10, 26, tyX10, rfl, by decide, rfl, rfl, lay_X10, tsg_in (i := 1248) (by decide +kernel) rfl, tyX10_ok, nmX10, rfl, rfl⟩
theorem gf_X10_217 : GF RX10 217 9 2 := ⟨RX10, TX10, 26, rfl, by decide, rfl, lay_X10, Or.inl (tsg_in (i := 1249) (by decide +kernel) rfl)⟩
theorem pf_X10_217 : PF RX10 217 9 2 .int := ⟨RX10, TX10, 26, tyX10, rfl, by decide, rfl, lay_X10, Or.inl (tsg_in (i := 1249) (by decide +kernel) rfl), tyX10_ok, nmX10, rfl, rfl⟩
theorem gf_X10_13 : GF RX10 13 9 3 := ⟨RX10, TX10, 26, rfl, by decide, rfl, lay_X10, Or.inl (tsg_in (i := 1250) (by decide +kernel) rfl)⟩
theorem pf_X10_13 : PF RX10 13 9 3 .int := ⟨RX10, TX10, 26, tyX10, rfl, by decide, rfl, lay_X10, Or.inl (tsg_in (i := 1250) (by decide +kernel) rfl), tyX10_ok, nmX10, rfl, rfl⟩
theorem gf_X10_20 : GF RX10 20 9 4 := ⟨RX10, TX10, 26, rfl, by decide, rfl, lay_X10, Or.inl (tsg_in (i := 1251) (by decide +kernel) rfl)⟩
theorem pf_X10_20 : PF RX10 20 9 4 (.object "ShadowRegistryModel$Plan") := ⟨RX10, TX10, 26, tyX10, rfl, by decide, rfl, lay_X10, Or.inl (tsg_in (i := 1251) (by decide +kernel) rfl), tyX10_ok, nmX10, rfl, rfl⟩
theorem gf_X10_24 : GF RX10 24 9 5 := ⟨RX10, TX10, 26, rfl, by decide, rfl, lay_X10, Or.inl (tsg_in (i := 1252) (by decide +kernel) rfl)⟩
theorem pff_X10_24 : PFF RX10 24 9 5 (.array .int) := ⟨RX10, TX10, 26, tyX10, rfl, by decide, rfl, rfl, lay_X10, tsg_in (i := 1252) (by decide +kernel) rfl, tyX10_ok, nmX10, rfl, rfl⟩
theorem gf_X10_27 : GF RX10 27 9 6 := ⟨RX10, TX10, 26, rfl, by decide, rfl, lay_X10, Or.inl (tsg_in (i := 1253) (by decide +kernel) rfl)⟩
theorem pff_X10_27 : PFF RX10 27 9 6 (.array .int) := ⟨RX10, TX10, 26, tyX10, rfl, by decide, rfl, rfl, lay_X10, tsg_in (i := 1253) (by decide +kernel) rfl, tyX10_ok, nmX10, rfl, rfl⟩
theorem gf_X10_30 : GF RX10 30 9 7 := ⟨RX10, TX10, 26, rfl, by decide, rfl, lay_X10, Or.inl (tsg_in (i := 1254) (by decide +kernel) rfl)⟩
theorem pff_X10_30 : PFF RX10 30 9 7 (.array .int) := ⟨RX10, TX10, 26, tyX10, rfl, by decide, rfl, rfl, lay_X10, tsg_in (i := 1254) (by decide +kernel) rfl, tyX10_ok, nmX10, rfl, rfl⟩
theorem gf_X10_33 : GF RX10 33 9 8 := ⟨RX10, TX10, 26, rfl, by decide, rfl, lay_X10, Or.inl (tsg_in (i := 1255) (by decide +kernel) rfl)⟩
theorem pff_X10_33 : PFF RX10 33 9 8 (.array .long) := ⟨RX10, TX10, 26, tyX10, rfl, by decide, rfl, rfl, lay_X10, tsg_in (i := 1255) (by decide +kernel) rfl, tyX10_ok, nmX10, rfl, rfl⟩
theorem gf_X10_37 : GF RX10 37 9 9 := ⟨RX10, TX10, 26, rfl, by decide, rfl, lay_X10, Or.inl (tsg_in (i := 1256) (by decide +kernel) rfl)⟩
theorem pff_X10_37 : PFF RX10 37 9 9 (.array .int) := ⟨RX10, TX10, 26, tyX10, rfl, by decide, rfl, rfl, lay_X10, tsg_in (i := 1256) (by decide +kernel) rfl, tyX10_ok, nmX10, rfl, rfl⟩
theorem gf_X10_263 : GF RX10 263 9 10 := ⟨RX10, TX10, 26, rfl, by decide, rfl, lay_X10, Or.inl (tsg_in (i := 1257) (by decide +kernel) rfl)⟩
theorem pf_X10_263 : PF RX10 263 9 10 .int := ⟨RX10, TX10, 26, tyX10, rfl, by decide, rfl, lay_X10, Or.inl (tsg_in (i := 1257) (by decide +kernel) rfl), tyX10_ok, nmX10, rfl, rfl⟩
theorem gf_X10_269 : GF RX10 269 9 11 := ⟨RX10, TX10, 26, rfl, by decide, rfl, lay_X10, Or.inl (tsg_in (i := 1258) (by decide +kernel) rfl)⟩
theorem pf_X10_269 : PF RX10 269 9 11 .int := ⟨RX10, TX10, 26, tyX10, rfl, by decide, rfl, lay_X10, Or.inl (tsg_in (i := 1258) (by decide +kernel) rfl), tyX10_ok, nmX10, rfl, rfl⟩
theorem gf_X10_322 : GF RX10 322 9 12 := ⟨RX10, TX10, 26, rfl, by decide, rfl, lay_X10, Or.inl (tsg_in (i := 1259) (by decide +kernel) rfl)⟩
theorem pf_X10_322 : PF RX10 322 9 12 .int := ⟨RX10, TX10, 26, tyX10, rfl, by decide, rfl, lay_X10, Or.inl (tsg_in (i := 1259) (by decide +kernel) rfl), tyX10_ok, nmX10, rfl, rfl⟩
theorem gf_X10_40 : GF RX10 40 9 13 := ⟨RX10, TX10, 26, rfl, by decide, rfl, lay_X10, Or.inl (tsg_in (i := 1260) (by decide +kernel) rfl)⟩
theorem pff_X10_40 : PFF RX10 40 9 13 (.array .int) := ⟨RX10, TX10, 26, tyX10, rfl, by decide, rfl, rfl, lay_X10, tsg_in (i := 1260) (by decide +kernel) rfl, tyX10_ok, nmX10, rfl, rfl⟩
theorem gf_X10_43 : GF RX10 43 9 14 := ⟨RX10, TX10, 26, rfl, by decide, rfl, lay_X10, Or.inl (tsg_in (i := 1261) (by decide +kernel) rfl)⟩
theorem pff_X10_43 : PFF RX10 43 9 14 (.array .int) := ⟨RX10, TX10, 26, tyX10, rfl, by decide, rfl, rfl, lay_X10, tsg_in (i := 1261) (by decide +kernel) rfl, tyX10_ok, nmX10, rfl, rfl⟩
theorem gf_X10_46 : GF RX10 46 9 15 := ⟨RX10, TX10, 26, rfl, by decide, rfl, lay_X10, Or.inl (tsg_in (i := 1262) (by decide +kernel) rfl)⟩
theorem pff_X10_46 : PFF RX10 46 9 15 (.array .int) := ⟨RX10, TX10, 26, tyX10, rfl, by decide, rfl, rfl, lay_X10, tsg_in (i := 1262) (by decide +kernel) rfl, tyX10_ok, nmX10, rfl, rfl⟩
theorem gf_X10_49 : GF RX10 49 9 16 := ⟨RX10, TX10, 26, rfl, by decide, rfl, lay_X10, Or.inl (tsg_in (i := 1263) (by decide +kernel) rfl)⟩
theorem pff_X10_49 : PFF RX10 49 9 16 (.array .int) := ⟨RX10, TX10, 26, tyX10, rfl, by decide, rfl, rfl, lay_X10, tsg_in (i := 1263) (by decide +kernel) rfl, tyX10_ok, nmX10, rfl, rfl⟩
theorem gf_X10_127 : GF RX10 127 9 17 := ⟨RX10, TX10, 26, rfl, by decide, rfl, lay_X10, Or.inl (tsg_in (i := 1264) (by decide +kernel) rfl)⟩
theorem pf_X10_127 : PF RX10 127 9 17 .int := ⟨RX10, TX10, 26, tyX10, rfl, by decide, rfl, lay_X10, Or.inl (tsg_in (i := 1264) (by decide +kernel) rfl), tyX10_ok, nmX10, rfl, rfl⟩
theorem gf_X10_130 : GF RX10 130 9 18 := ⟨RX10, TX10, 26, rfl, by decide, rfl, lay_X10, Or.inl (tsg_in (i := 1265) (by decide +kernel) rfl)⟩
theorem pf_X10_130 : PF RX10 130 9 18 .int := ⟨RX10, TX10, 26, tyX10, rfl, by decide, rfl, lay_X10, Or.inl (tsg_in (i := 1265) (by decide +kernel) rfl), tyX10_ok, nmX10, rfl, rfl⟩
theorem gf_X10_52 : GF RX10 52 9 19 := ⟨RX10, TX10, 26, rfl, by decide, rfl, lay_X10, Or.inl (tsg_in (i := 1266) (by decide +kernel) rfl)⟩
theorem pff_X10_52 : PFF RX10 52 9 19 (.array .int) := ⟨RX10, TX10, 26, tyX10, rfl, by decide, rfl, rfl, lay_X10, tsg_in (i := 1266) (by decide +kernel) rfl, tyX10_ok, nmX10, rfl, rfl⟩
theorem gf_X10_55 : GF RX10 55 9 20 := ⟨RX10, TX10, 26, rfl, by decide, rfl, lay_X10, Or.inl (tsg_in (i := 1267) (by decide +kernel) rfl)⟩
theorem pff_X10_55 : PFF RX10 55 9 20 (.array .int) := ⟨RX10, TX10, 26, tyX10, rfl, by decide, rfl, rfl, lay_X10, tsg_in (i := 1267) (by decide +kernel) rfl, tyX10_ok, nmX10, rfl, rfl⟩
theorem gf_X10_58 : GF RX10 58 9 21 := ⟨RX10, TX10, 26, rfl, by decide, rfl, lay_X10, Or.inl (tsg_in (i := 1268) (by decide +kernel) rfl)⟩
theorem pff_X10_58 : PFF RX10 58 9 21 (.array .int) := ⟨RX10, TX10, 26, tyX10, rfl, by decide, rfl, rfl, lay_X10, tsg_in (i := 1268) (by decide +kernel) rfl, tyX10_ok, nmX10, rfl, rfl⟩
theorem gf_X10_61 : GF RX10 61 9 22 := ⟨RX10, TX10, 26, rfl, by decide, rfl, lay_X10, Or.inl (tsg_in (i := 1269) (by decide +kernel) rfl)⟩
theorem pff_X10_61 : PFF RX10 61 9 22 (.array .int) := ⟨RX10, TX10, 26, tyX10, rfl, by decide, rfl, rfl, lay_X10, tsg_in (i := 1269) (by decide +kernel) rfl, tyX10_ok, nmX10, rfl, rfl⟩
theorem gf_X10_64 : GF RX10 64 9 23 := ⟨RX10, TX10, 26, rfl, by decide, rfl, lay_X10, Or.inl (tsg_in (i := 1270) (by decide +kernel) rfl)⟩
theorem pff_X10_64 : PFF RX10 64 9 23 (.array .int) := ⟨RX10, TX10, 26, tyX10, rfl, by decide, rfl, rfl, lay_X10, tsg_in (i := 1270) (by decide +kernel) rfl, tyX10_ok, nmX10, rfl, rfl⟩
theorem gf_X10_96 : GF RX10 96 9 24 := ⟨RX10, TX10, 26, rfl, by decide, rfl, lay_X10, Or.inl (tsg_in (i := 1271) (by decide +kernel) rfl)⟩
theorem pf_X10_96 : PF RX10 96 9 24 .boolean := ⟨RX10, TX10, 26, tyX10, rfl, by decide, rfl, lay_X10, Or.inl (tsg_in (i := 1271) (by decide +kernel) rfl), tyX10_ok, nmX10, rfl, rfl⟩
theorem gf_X10_67 : GF RX10 67 9 25 := ⟨RX10, TX10, 26, rfl, by decide, rfl, lay_X10, Or.inl (tsg_in (i := 1272) (by decide +kernel) rfl)⟩
theorem pff_X10_67 : PFF RX10 67 9 25 (.array .int) := ⟨RX10, TX10, 26, tyX10, rfl, by decide, rfl, rfl, lay_X10, tsg_in (i := 1272) (by decide +kernel) rfl, tyX10_ok, nmX10, rfl, rfl⟩
theorem sw_X10_249 : Cond.fieldLink RX10 249 RX10 "WORDS" "[Ljava/lang/String;" ∈ TSg := tsg_in (i := 1387) (by decide +kernel) rfl
theorem kw_X7_83 : Cond.fieldLink RX7 83 RX1 "word" "J" ∈ TSg := tsg_in (i := 1833) (by decide +kernel) rfl
theorem yc_X8_init : YC yX8_init cX8_init 1 none 0 := ⟨tsg_in (i := 97) (by decide +kernel) rfl, tsg_in (i := 126) (by decide +kernel) rfl, by decide +kernel⟩
theorem yi_X8_init : YI yX8_init := ⟨tsg_in (i := 125) (by decide +kernel) rfl, rfl⟩
theorem yc_X6_init : YC yX6_init cX6_init 1 none 0 := ⟨tsg_in (i := 98) (by decide +kernel) rfl, tsg_in (i := 134) (by decide +kernel) rfl, by decide +kernel⟩
theorem yi_X6_init : YI yX6_init := ⟨tsg_in (i := 133) (by decide +kernel) rfl, rfl⟩
theorem yc_X0_init : YC yX0_init cX0_init 2 none 0 := ⟨tsg_in (i := 99) (by decide +kernel) rfl, tsg_in (i := 150) (by decide +kernel) rfl, by decide +kernel⟩
theorem yi_X0_init : YI yX0_init := ⟨tsg_in (i := 149) (by decide +kernel) rfl, rfl⟩
theorem yc_X2_init : YC yX2_init cX2_init 1 none 0 := ⟨tsg_in (i := 100) (by decide +kernel) rfl, tsg_in (i := 157) (by decide +kernel) rfl, by decide +kernel⟩
theorem yi_X2_init : YI yX2_init := ⟨tsg_in (i := 156) (by decide +kernel) rfl, rfl⟩
theorem yc_X7_init : YC yX7_init cX7_init 2 none 1 := ⟨tsg_in (i := 102) (by decide +kernel) rfl, tsg_in (i := 240) (by decide +kernel) rfl, by decide +kernel⟩
theorem yi_X7_init : YI yX7_init := ⟨tsg_in (i := 239) (by decide +kernel) rfl, rfl⟩
theorem yc_X3_init : YC yX3_init cX3_init 3 none 2 := ⟨tsg_in (i := 101) (by decide +kernel) rfl, tsg_in (i := 262) (by decide +kernel) rfl, by decide +kernel⟩
theorem yi_X3_init : YI yX3_init := ⟨tsg_in (i := 261) (by decide +kernel) rfl, rfl⟩
theorem yc_X4_init : YC yX4_init cX4_init 2 none 1 := ⟨tsg_in (i := 105) (by decide +kernel) rfl, tsg_in (i := 301) (by decide +kernel) rfl, by decide +kernel⟩
theorem yi_X4_init : YI yX4_init := ⟨tsg_in (i := 300) (by decide +kernel) rfl, rfl⟩
theorem yc_X5_init : YC yX5_init cX5_init 1 none 0 := ⟨tsg_in (i := 106) (by decide +kernel) rfl, tsg_in (i := 317) (by decide +kernel) rfl, by decide +kernel⟩
theorem yi_X5_init : YI yX5_init := ⟨tsg_in (i := 316) (by decide +kernel) rfl, rfl⟩
theorem yc_X8_teach : YC yX8_teach cX8_teach 2 (some .int) 0 := ⟨tsg_in (i := 97) (by decide +kernel) rfl, tsg_in (i := 387) (by decide +kernel) rfl, by decide +kernel⟩
theorem yv_X8_teach : YV yX8_teach := ⟨tsg_in (i := 385) (by decide +kernel) rfl, tsg_in (i := 386) (by decide +kernel) rfl⟩
theorem yc_X3_read : YC yX3_read cX3_read 2 (some .int) 0 := ⟨tsg_in (i := 101) (by decide +kernel) rfl, tsg_in (i := 391) (by decide +kernel) rfl, by decide +kernel⟩
theorem yv_X3_read : YV yX3_read := ⟨tsg_in (i := 389) (by decide +kernel) rfl, tsg_in (i := 390) (by decide +kernel) rfl⟩
theorem yc_X7_scan : YC yX7_scan cX7_scan 3 none 0 := ⟨tsg_in (i := 102) (by decide +kernel) rfl, tsg_in (i := 395) (by decide +kernel) rfl, by decide +kernel⟩
theorem yv_X7_scan : YV yX7_scan := ⟨tsg_in (i := 393) (by decide +kernel) rfl, tsg_in (i := 394) (by decide +kernel) rfl⟩
theorem yc_X7_behindBlanks : YC yX7_behindBlanks cX7_behindBlanks 3 (some .int) 1 := ⟨tsg_in (i := 102) (by decide +kernel) rfl, tsg_in (i := 399) (by decide +kernel) rfl, by decide +kernel⟩
theorem yv_X7_behindBlanks : YV yX7_behindBlanks := ⟨tsg_in (i := 398) (by decide +kernel) rfl, tsg_in (i := 0) (by decide +kernel) rfl⟩
theorem yc_X6_signAt : YC yX6_signAt cX6_signAt 2 (some .int) 1 := ⟨tsg_in (i := 98) (by decide +kernel) rfl, tsg_in (i := 403) (by decide +kernel) rfl, by decide +kernel⟩
theorem yv_X6_signAt : YV yX6_signAt := ⟨tsg_in (i := 401) (by decide +kernel) rfl, tsg_in (i := 402) (by decide +kernel) rfl⟩
theorem yc_X7_scanToken : YC yX7_scanToken cX7_scanToken 3 (some .int) 1 := ⟨tsg_in (i := 102) (by decide +kernel) rfl, tsg_in (i := 407) (by decide +kernel) rfl, by decide +kernel⟩
theorem yv_X7_scanToken : YV yX7_scanToken := ⟨tsg_in (i := 406) (by decide +kernel) rfl, tsg_in (i := 1) (by decide +kernel) rfl⟩
theorem yc_X7_put : YC yX7_put cX7_put 6 (some .int) 4 := ⟨tsg_in (i := 102) (by decide +kernel) rfl, tsg_in (i := 413) (by decide +kernel) rfl, by decide +kernel⟩
theorem yv_X7_put : YV yX7_put := ⟨tsg_in (i := 412) (by decide +kernel) rfl, tsg_in (i := 2) (by decide +kernel) rfl⟩
theorem yc_X7_isLetter : YC yX7_isLetter cX7_isLetter 1 (some .boolean) 1 := ⟨tsg_in (i := 102) (by decide +kernel) rfl, tsg_in (i := 417) (by decide +kernel) rfl, by decide +kernel⟩
theorem ys_X7_isLetter : YS yX7_isLetter := tsg_in (i := 416) (by decide +kernel) rfl
theorem yc_X7_scanWord : YC yX7_scanWord cX7_scanWord 9 (some .int) 1 := ⟨tsg_in (i := 102) (by decide +kernel) rfl, tsg_in (i := 421) (by decide +kernel) rfl, by decide +kernel⟩
theorem yv_X7_scanWord : YV yX7_scanWord := ⟨tsg_in (i := 420) (by decide +kernel) rfl, tsg_in (i := 3) (by decide +kernel) rfl⟩
theorem yc_X7_isDigit : YC yX7_isDigit cX7_isDigit 1 (some .boolean) 1 := ⟨tsg_in (i := 102) (by decide +kernel) rfl, tsg_in (i := 424) (by decide +kernel) rfl, by decide +kernel⟩
theorem ys_X7_isDigit : YS yX7_isDigit := tsg_in (i := 423) (by decide +kernel) rfl
theorem yc_X1_lengthened : YC yX1_lengthened cX1_lengthened 3 (some .long) 2 := ⟨tsg_in (i := 104) (by decide +kernel) rfl, tsg_in (i := 427) (by decide +kernel) rfl, by decide +kernel⟩
theorem ys_X1_lengthened : YS yX1_lengthened := tsg_in (i := 426) (by decide +kernel) rfl
theorem yc_X7_scanNumber : YC yX7_scanNumber cX7_scanNumber 5 (some .int) 1 := ⟨tsg_in (i := 102) (by decide +kernel) rfl, tsg_in (i := 436) (by decide +kernel) rfl, by decide +kernel⟩
theorem yv_X7_scanNumber : YV yX7_scanNumber := ⟨tsg_in (i := 435) (by decide +kernel) rfl, tsg_in (i := 4) (by decide +kernel) rfl⟩
theorem yc_X7_scanSymbol : YC yX7_scanSymbol cX7_scanSymbol 5 (some .int) 2 := ⟨tsg_in (i := 102) (by decide +kernel) rfl, tsg_in (i := 443) (by decide +kernel) rfl, by decide +kernel⟩
theorem yv_X7_scanSymbol : YV yX7_scanSymbol := ⟨tsg_in (i := 442) (by decide +kernel) rfl, tsg_in (i := 5) (by decide +kernel) rfl⟩
theorem yc_X7_symbol : YC yX7_symbol cX7_symbol 1 (some (.object "ShadowRegistry$Kind")) 1 := ⟨tsg_in (i := 102) (by decide +kernel) rfl, tsg_in (i := 450) (by decide +kernel) rfl, by decide +kernel⟩
theorem ys_X7_symbol : YS yX7_symbol := tsg_in (i := 449) (by decide +kernel) rfl
theorem yc_X0_empty : YC yX0_empty cX0_empty 1 none 0 := ⟨tsg_in (i := 99) (by decide +kernel) rfl, tsg_in (i := 480) (by decide +kernel) rfl, by decide +kernel⟩
theorem yv_X0_empty : YV yX0_empty := ⟨tsg_in (i := 478) (by decide +kernel) rfl, tsg_in (i := 479) (by decide +kernel) rfl⟩
theorem yc_X7_startAt : YC yX7_startAt cX7_startAt 2 (some .int) 1 := ⟨tsg_in (i := 102) (by decide +kernel) rfl, tsg_in (i := 484) (by decide +kernel) rfl, by decide +kernel⟩
theorem yv_X7_startAt : YV yX7_startAt := ⟨tsg_in (i := 482) (by decide +kernel) rfl, tsg_in (i := 483) (by decide +kernel) rfl⟩
theorem yc_X7_kindAt : YC yX7_kindAt cX7_kindAt 2 (some (.object "ShadowRegistry$Kind")) 1 := ⟨tsg_in (i := 102) (by decide +kernel) rfl, tsg_in (i := 488) (by decide +kernel) rfl, by decide +kernel⟩
theorem yv_X7_kindAt : YV yX7_kindAt := ⟨tsg_in (i := 486) (by decide +kernel) rfl, tsg_in (i := 487) (by decide +kernel) rfl⟩
theorem yc_X3_houseLine : YC yX3_houseLine cX3_houseLine 10 none 0 := ⟨tsg_in (i := 101) (by decide +kernel) rfl, tsg_in (i := 495) (by decide +kernel) rfl, by decide +kernel⟩
theorem yv_X3_houseLine : YV yX3_houseLine := ⟨tsg_in (i := 494) (by decide +kernel) rfl, tsg_in (i := 6) (by decide +kernel) rfl⟩
theorem yc_X3_take : YC yX3_take cX3_take 4 (some .long) 1 := ⟨tsg_in (i := 101) (by decide +kernel) rfl, tsg_in (i := 499) (by decide +kernel) rfl, by decide +kernel⟩
theorem yv_X3_take : YV yX3_take := ⟨tsg_in (i := 498) (by decide +kernel) rfl, tsg_in (i := 7) (by decide +kernel) rfl⟩
theorem yc_X3_fail : YC yX3_fail cX3_fail 1 none 0 := ⟨tsg_in (i := 101) (by decide +kernel) rfl, tsg_in (i := 503) (by decide +kernel) rfl, by decide +kernel⟩
theorem yv_X3_fail : YV yX3_fail := ⟨tsg_in (i := 502) (by decide +kernel) rfl, tsg_in (i := 8) (by decide +kernel) rfl⟩
theorem yc_X7_valueAt : YC yX7_valueAt cX7_valueAt 2 (some .long) 1 := ⟨tsg_in (i := 102) (by decide +kernel) rfl, tsg_in (i := 507) (by decide +kernel) rfl, by decide +kernel⟩
theorem yv_X7_valueAt : YV yX7_valueAt := ⟨tsg_in (i := 505) (by decide +kernel) rfl, tsg_in (i := 506) (by decide +kernel) rfl⟩
theorem yc_X0_houseNamed : YC yX0_houseNamed cX0_houseNamed 4 (some .int) 1 := ⟨tsg_in (i := 99) (by decide +kernel) rfl, tsg_in (i := 512) (by decide +kernel) rfl, by decide +kernel⟩
theorem yv_X0_houseNamed : YV yX0_houseNamed := ⟨tsg_in (i := 510) (by decide +kernel) rfl, tsg_in (i := 511) (by decide +kernel) rfl⟩
theorem yc_X3_tell : YC yX3_tell cX3_tell 3 none 2 := ⟨tsg_in (i := 101) (by decide +kernel) rfl, tsg_in (i := 516) (by decide +kernel) rfl, by decide +kernel⟩
theorem yv_X3_tell : YV yX3_tell := ⟨tsg_in (i := 515) (by decide +kernel) rfl, tsg_in (i := 9) (by decide +kernel) rfl⟩
theorem yc_X0_isTaken : YC yX0_isTaken cX0_isTaken 4 (some .boolean) 1 := ⟨tsg_in (i := 99) (by decide +kernel) rfl, tsg_in (i := 524) (by decide +kernel) rfl, by decide +kernel⟩
theorem yv_X0_isTaken : YV yX0_isTaken := ⟨tsg_in (i := 522) (by decide +kernel) rfl, tsg_in (i := 523) (by decide +kernel) rfl⟩
theorem yc_X0_addHouse : YC yX0_addHouse cX0_addHouse 5 none 3 := ⟨tsg_in (i := 99) (by decide +kernel) rfl, tsg_in (i := 531) (by decide +kernel) rfl, by decide +kernel⟩
theorem yv_X0_addHouse : YV yX0_addHouse := ⟨tsg_in (i := 529) (by decide +kernel) rfl, tsg_in (i := 530) (by decide +kernel) rfl⟩
theorem yc_X3_lawLine : YC yX3_lawLine cX3_lawLine 2 none 0 := ⟨tsg_in (i := 101) (by decide +kernel) rfl, tsg_in (i := 535) (by decide +kernel) rfl, by decide +kernel⟩
theorem yv_X3_lawLine : YV yX3_lawLine := ⟨tsg_in (i := 534) (by decide +kernel) rfl, tsg_in (i := 10) (by decide +kernel) rfl⟩
theorem yc_X3_order : YC yX3_order cX3_order 1 none 0 := ⟨tsg_in (i := 101) (by decide +kernel) rfl, tsg_in (i := 541) (by decide +kernel) rfl, by decide +kernel⟩
theorem yv_X3_order : YV yX3_order := ⟨tsg_in (i := 540) (by decide +kernel) rfl, tsg_in (i := 11) (by decide +kernel) rfl⟩
theorem yc_X3_knownHouse : YC yX3_knownHouse cX3_knownHouse 3 (some .int) 0 := ⟨tsg_in (i := 101) (by decide +kernel) rfl, tsg_in (i := 547) (by decide +kernel) rfl, by decide +kernel⟩
theorem yv_X3_knownHouse : YV yX3_knownHouse := ⟨tsg_in (i := 546) (by decide +kernel) rfl, tsg_in (i := 12) (by decide +kernel) rfl⟩
theorem yc_X3_sum : YC yX3_sum cX3_sum 4 none 1 := ⟨tsg_in (i := 101) (by decide +kernel) rfl, tsg_in (i := 553) (by decide +kernel) rfl, by decide +kernel⟩
theorem yv_X3_sum : YV yX3_sum := ⟨tsg_in (i := 552) (by decide +kernel) rfl, tsg_in (i := 13) (by decide +kernel) rfl⟩
theorem yc_X3_product : YC yX3_product cX3_product 4 none 1 := ⟨tsg_in (i := 101) (by decide +kernel) rfl, tsg_in (i := 557) (by decide +kernel) rfl, by decide +kernel⟩
theorem yv_X3_product : YV yX3_product := ⟨tsg_in (i := 556) (by decide +kernel) rfl, tsg_in (i := 14) (by decide +kernel) rfl⟩
theorem yc_X3_value : YC yX3_value cX3_value 3 none 1 := ⟨tsg_in (i := 101) (by decide +kernel) rfl, tsg_in (i := 561) (by decide +kernel) rfl, by decide +kernel⟩
theorem yv_X3_value : YV yX3_value := ⟨tsg_in (i := 560) (by decide +kernel) rfl, tsg_in (i := 15) (by decide +kernel) rfl⟩
theorem yc_X0_addStep : YC yX0_addStep cX0_addStep 4 none 3 := ⟨tsg_in (i := 99) (by decide +kernel) rfl, tsg_in (i := 565) (by decide +kernel) rfl, by decide +kernel⟩
theorem yv_X0_addStep : YV yX0_addStep := ⟨tsg_in (i := 563) (by decide +kernel) rfl, tsg_in (i := 564) (by decide +kernel) rfl⟩
theorem yc_X3_goesDeeper : YC yX3_goesDeeper cX3_goesDeeper 3 (some .boolean) 2 := ⟨tsg_in (i := 101) (by decide +kernel) rfl, tsg_in (i := 582) (by decide +kernel) rfl, by decide +kernel⟩
theorem yv_X3_goesDeeper : YV yX3_goesDeeper := ⟨tsg_in (i := 581) (by decide +kernel) rfl, tsg_in (i := 16) (by decide +kernel) rfl⟩
theorem yc_X3_choice : YC yX3_choice cX3_choice 3 none 1 := ⟨tsg_in (i := 101) (by decide +kernel) rfl, tsg_in (i := 592) (by decide +kernel) rfl, by decide +kernel⟩
theorem yv_X3_choice : YV yX3_choice := ⟨tsg_in (i := 591) (by decide +kernel) rfl, tsg_in (i := 17) (by decide +kernel) rfl⟩
theorem yc_X3_test : YC yX3_test cX3_test 3 none 1 := ⟨tsg_in (i := 101) (by decide +kernel) rfl, tsg_in (i := 610) (by decide +kernel) rfl, by decide +kernel⟩
theorem yv_X3_test : YV yX3_test := ⟨tsg_in (i := 609) (by decide +kernel) rfl, tsg_in (i := 18) (by decide +kernel) rfl⟩
theorem yc_X3_both : YC yX3_both cX3_both 3 none 1 := ⟨tsg_in (i := 101) (by decide +kernel) rfl, tsg_in (i := 614) (by decide +kernel) rfl, by decide +kernel⟩
theorem yv_X3_both : YV yX3_both := ⟨tsg_in (i := 613) (by decide +kernel) rfl, tsg_in (i := 19) (by decide +kernel) rfl⟩
theorem yc_X3_single : YC yX3_single cX3_single 3 none 1 := ⟨tsg_in (i := 101) (by decide +kernel) rfl, tsg_in (i := 618) (by decide +kernel) rfl, by decide +kernel⟩
theorem yv_X3_single : YV yX3_single := ⟨tsg_in (i := 617) (by decide +kernel) rfl, tsg_in (i := 20) (by decide +kernel) rfl⟩
theorem yc_X3_comparisonOp : YC yX3_comparisonOp cX3_comparisonOp 1 (some .int) 1 := ⟨tsg_in (i := 101) (by decide +kernel) rfl, tsg_in (i := 629) (by decide +kernel) rfl, by decide +kernel⟩
theorem ys_X3_comparisonOp : YS yX3_comparisonOp := tsg_in (i := 628) (by decide +kernel) rfl
theorem yc_X0_addLaw : YC yX0_addLaw cX0_addLaw 3 none 1 := ⟨tsg_in (i := 99) (by decide +kernel) rfl, tsg_in (i := 642) (by decide +kernel) rfl, by decide +kernel⟩
theorem yv_X0_addLaw : YV yX0_addLaw := ⟨tsg_in (i := 640) (by decide +kernel) rfl, tsg_in (i := 641) (by decide +kernel) rfl⟩
theorem yc_X2_become : YC yX2_become cX2_become 2 none 1 := ⟨tsg_in (i := 100) (by decide +kernel) rfl, tsg_in (i := 646) (by decide +kernel) rfl, by decide +kernel⟩
theorem yv_X2_become : YV yX2_become := ⟨tsg_in (i := 644) (by decide +kernel) rfl, tsg_in (i := 645) (by decide +kernel) rfl⟩
theorem yc_X0_become : YC yX0_become cX0_become 4 none 1 := ⟨tsg_in (i := 99) (by decide +kernel) rfl, tsg_in (i := 651) (by decide +kernel) rfl, by decide +kernel⟩
theorem yv_X0_become : YV yX0_become := ⟨tsg_in (i := 649) (by decide +kernel) rfl, tsg_in (i := 650) (by decide +kernel) rfl⟩
theorem yc_X0_lawAt : YC yX0_lawAt cX0_lawAt 2 (some (.object "ShadowRegistry$Law")) 1 := ⟨tsg_in (i := 99) (by decide +kernel) rfl, tsg_in (i := 658) (by decide +kernel) rfl, by decide +kernel⟩
theorem yv_X0_lawAt : YV yX0_lawAt := ⟨tsg_in (i := 656) (by decide +kernel) rfl, tsg_in (i := 657) (by decide +kernel) rfl⟩
theorem yc_X5_beginWith : YC yX5_beginWith cX5_beginWith 4 none 1 := ⟨tsg_in (i := 106) (by decide +kernel) rfl, tsg_in (i := 663) (by decide +kernel) rfl, by decide +kernel⟩
theorem yv_X5_beginWith : YV yX5_beginWith := ⟨tsg_in (i := 661) (by decide +kernel) rfl, tsg_in (i := 662) (by decide +kernel) rfl⟩
theorem yc_X8_held : YC yX8_held cX8_held 4 (some .int) 3 := ⟨tsg_in (i := 97) (by decide +kernel) rfl, tsg_in (i := 666) (by decide +kernel) rfl, by decide +kernel⟩
theorem ys_X8_held : YS yX8_held := tsg_in (i := 665) (by decide +kernel) rfl
theorem yc_J9_min_f86c9 : YC yJ9_min_f86c9 cJ9_min_f86c9 4 (some .long) 2 := ⟨tsg_in (i := 114) (by decide +kernel) rfl, tsg_in (i := 669) (by decide +kernel) rfl, by decide +kernel⟩
theorem ys_J9_min_f86c9 : YS yJ9_min_f86c9 := tsg_in (i := 668) (by decide +kernel) rfl
theorem yc_J9_max_f86c9 : YC yJ9_max_f86c9 cJ9_max_f86c9 4 (some .long) 2 := ⟨tsg_in (i := 114) (by decide +kernel) rfl, tsg_in (i := 672) (by decide +kernel) rfl, by decide +kernel⟩
theorem ys_J9_max_f86c9 : YS yJ9_max_f86c9 := tsg_in (i := 671) (by decide +kernel) rfl
theorem yc_X5_findHoursShaded : YC yX5_findHoursShaded cX5_findHoursShaded 9 (some .int) 2 := ⟨tsg_in (i := 106) (by decide +kernel) rfl, tsg_in (i := 676) (by decide +kernel) rfl, by decide +kernel⟩
theorem yv_X5_findHoursShaded : YV yX5_findHoursShaded := ⟨tsg_in (i := 675) (by decide +kernel) rfl, tsg_in (i := 21) (by decide +kernel) rfl⟩
theorem yc_X5_place : YC yX5_place cX5_place 2 (some .int) 1 := ⟨tsg_in (i := 106) (by decide +kernel) rfl, tsg_in (i := 680) (by decide +kernel) rfl, by decide +kernel⟩
theorem yv_X5_place : YV yX5_place := ⟨tsg_in (i := 678) (by decide +kernel) rfl, tsg_in (i := 679) (by decide +kernel) rfl⟩
theorem yc_X5_has : YC yX5_has cX5_has 2 (some .boolean) 1 := ⟨tsg_in (i := 106) (by decide +kernel) rfl, tsg_in (i := 684) (by decide +kernel) rfl, by decide +kernel⟩
theorem yv_X5_has : YV yX5_has := ⟨tsg_in (i := 682) (by decide +kernel) rfl, tsg_in (i := 683) (by decide +kernel) rfl⟩
theorem yc_J9_abs_0f7a4 : YC yJ9_abs_0f7a4 cJ9_abs_0f7a4 1 (some .int) 1 := ⟨tsg_in (i := 114) (by decide +kernel) rfl, tsg_in (i := 687) (by decide +kernel) rfl, by decide +kernel⟩
theorem ys_J9_abs_0f7a4 : YS yJ9_abs_0f7a4 := tsg_in (i := 686) (by decide +kernel) rfl
theorem yc_X5_wallAt : YC yX5_wallAt cX5_wallAt 3 (some .int) 2 := ⟨tsg_in (i := 106) (by decide +kernel) rfl, tsg_in (i := 691) (by decide +kernel) rfl, by decide +kernel⟩
theorem yv_X5_wallAt : YV yX5_wallAt := ⟨tsg_in (i := 689) (by decide +kernel) rfl, tsg_in (i := 690) (by decide +kernel) rfl⟩
theorem yc_X5_addUp : YC yX5_addUp cX5_addUp 5 none 0 := ⟨tsg_in (i := 106) (by decide +kernel) rfl, tsg_in (i := 695) (by decide +kernel) rfl, by decide +kernel⟩
theorem yv_X5_addUp : YV yX5_addUp := ⟨tsg_in (i := 694) (by decide +kernel) rfl, tsg_in (i := 22) (by decide +kernel) rfl⟩
theorem yc_X5_hoursShaded : YC yX5_hoursShaded cX5_hoursShaded 3 (some .int) 2 := ⟨tsg_in (i := 106) (by decide +kernel) rfl, tsg_in (i := 699) (by decide +kernel) rfl, by decide +kernel⟩
theorem yv_X5_hoursShaded : YV yX5_hoursShaded := ⟨tsg_in (i := 697) (by decide +kernel) rfl, tsg_in (i := 698) (by decide +kernel) rfl⟩
theorem yc_J6_bitCount_0f7a4 : YC yJ6_bitCount_0f7a4 cJ6_bitCount_0f7a4 1 (some .int) 1 := ⟨tsg_in (i := 115) (by decide +kernel) rfl, tsg_in (i := 702) (by decide +kernel) rfl, by decide +kernel⟩
theorem ys_J6_bitCount_0f7a4 : YS yJ6_bitCount_0f7a4 := tsg_in (i := 701) (by decide +kernel) rfl
theorem yc_X8_errorAt : YC yX8_errorAt cX8_errorAt 1 (some .int) 0 := ⟨tsg_in (i := 97) (by decide +kernel) rfl, tsg_in (i := 709) (by decide +kernel) rfl, by decide +kernel⟩
theorem yv_X8_errorAt : YV yX8_errorAt := ⟨tsg_in (i := 707) (by decide +kernel) rfl, tsg_in (i := 708) (by decide +kernel) rfl⟩
theorem yc_X8_houses : YC yX8_houses cX8_houses 1 (some .int) 0 := ⟨tsg_in (i := 97) (by decide +kernel) rfl, tsg_in (i := 713) (by decide +kernel) rfl, by decide +kernel⟩
theorem yv_X8_houses : YV yX8_houses := ⟨tsg_in (i := 711) (by decide +kernel) rfl, tsg_in (i := 712) (by decide +kernel) rfl⟩
theorem yc_X8_laws : YC yX8_laws cX8_laws 1 (some .int) 0 := ⟨tsg_in (i := 97) (by decide +kernel) rfl, tsg_in (i := 717) (by decide +kernel) rfl, by decide +kernel⟩
theorem yv_X8_laws : YV yX8_laws := ⟨tsg_in (i := 715) (by decide +kernel) rfl, tsg_in (i := 716) (by decide +kernel) rfl⟩
theorem yc_X8_days : YC yX8_days cX8_days 1 (some .int) 0 := ⟨tsg_in (i := 97) (by decide +kernel) rfl, tsg_in (i := 721) (by decide +kernel) rfl, by decide +kernel⟩
theorem yv_X8_days : YV yX8_days := ⟨tsg_in (i := 719) (by decide +kernel) rfl, tsg_in (i := 720) (by decide +kernel) rfl⟩
theorem yc_X8_lawsCarriedOut : YC yX8_lawsCarriedOut cX8_lawsCarriedOut 1 (some .int) 0 := ⟨tsg_in (i := 97) (by decide +kernel) rfl, tsg_in (i := 725) (by decide +kernel) rfl, by decide +kernel⟩
theorem yv_X8_lawsCarriedOut : YV yX8_lawsCarriedOut := ⟨tsg_in (i := 723) (by decide +kernel) rfl, tsg_in (i := 724) (by decide +kernel) rfl⟩
theorem yc_X8_allHoursLost : YC yX8_allHoursLost cX8_allHoursLost 1 (some .int) 0 := ⟨tsg_in (i := 97) (by decide +kernel) rfl, tsg_in (i := 729) (by decide +kernel) rfl, by decide +kernel⟩
theorem yv_X8_allHoursLost : YV yX8_allHoursLost := ⟨tsg_in (i := 727) (by decide +kernel) rfl, tsg_in (i := 728) (by decide +kernel) rfl⟩
theorem yc_X8_lightHouses : YC yX8_lightHouses cX8_lightHouses 3 (some .int) 0 := ⟨tsg_in (i := 97) (by decide +kernel) rfl, tsg_in (i := 733) (by decide +kernel) rfl, by decide +kernel⟩
theorem yv_X8_lightHouses : YV yX8_lightHouses := ⟨tsg_in (i := 731) (by decide +kernel) rfl, tsg_in (i := 732) (by decide +kernel) rfl⟩
theorem yc_X5_lost : YC yX5_lost cX5_lost 2 (some .int) 1 := ⟨tsg_in (i := 106) (by decide +kernel) rfl, tsg_in (i := 737) (by decide +kernel) rfl, by decide +kernel⟩
theorem yv_X5_lost : YV yX5_lost := ⟨tsg_in (i := 735) (by decide +kernel) rfl, tsg_in (i := 736) (by decide +kernel) rfl⟩
theorem yc_X5_hoursDark : YC yX5_hoursDark cX5_hoursDark 2 (some .int) 1 := ⟨tsg_in (i := 106) (by decide +kernel) rfl, tsg_in (i := 741) (by decide +kernel) rfl, by decide +kernel⟩
theorem yv_X5_hoursDark : YV yX5_hoursDark := ⟨tsg_in (i := 739) (by decide +kernel) rfl, tsg_in (i := 740) (by decide +kernel) rfl⟩
theorem yc_X8_daysUntilLight : YC yX8_daysUntilLight cX8_daysUntilLight 2 (some .int) 0 := ⟨tsg_in (i := 97) (by decide +kernel) rfl, tsg_in (i := 745) (by decide +kernel) rfl, by decide +kernel⟩
theorem yv_X8_daysUntilLight : YV yX8_daysUntilLight := ⟨tsg_in (i := 743) (by decide +kernel) rfl, tsg_in (i := 744) (by decide +kernel) rfl⟩
theorem yc_X5_become : YC yX5_become cX5_become 2 none 1 := ⟨tsg_in (i := 106) (by decide +kernel) rfl, tsg_in (i := 749) (by decide +kernel) rfl, by decide +kernel⟩
theorem yv_X5_become : YV yX5_become := ⟨tsg_in (i := 747) (by decide +kernel) rfl, tsg_in (i := 748) (by decide +kernel) rfl⟩
theorem yc_X4_passDay : YC yX4_passDay cX4_passDay 4 none 1 := ⟨tsg_in (i := 105) (by decide +kernel) rfl, tsg_in (i := 756) (by decide +kernel) rfl, by decide +kernel⟩
theorem yv_X4_passDay : YV yX4_passDay := ⟨tsg_in (i := 754) (by decide +kernel) rfl, tsg_in (i := 755) (by decide +kernel) rfl⟩
theorem yc_X4_carryOut : YC yX4_carryOut cX4_carryOut 6 (some .boolean) 2 := ⟨tsg_in (i := 105) (by decide +kernel) rfl, tsg_in (i := 761) (by decide +kernel) rfl, by decide +kernel⟩
theorem yv_X4_carryOut : YV yX4_carryOut := ⟨tsg_in (i := 760) (by decide +kernel) rfl, tsg_in (i := 23) (by decide +kernel) rfl⟩
theorem yc_X4_reckon : YC yX4_reckon cX4_reckon 8 (some .int) 3 := ⟨tsg_in (i := 105) (by decide +kernel) rfl, tsg_in (i := 765) (by decide +kernel) rfl, by decide +kernel⟩
theorem yv_X4_reckon : YV yX4_reckon := ⟨tsg_in (i := 764) (by decide +kernel) rfl, tsg_in (i := 24) (by decide +kernel) rfl⟩
theorem yc_J9_max_7cf53 : YC yJ9_max_7cf53 cJ9_max_7cf53 2 (some .int) 2 := ⟨tsg_in (i := 114) (by decide +kernel) rfl, tsg_in (i := 768) (by decide +kernel) rfl, by decide +kernel⟩
theorem ys_J9_max_7cf53 : YS yJ9_max_7cf53 := tsg_in (i := 767) (by decide +kernel) rfl
theorem yc_X4_leaf : YC yX4_leaf cX4_leaf 4 (some .int) 4 := ⟨tsg_in (i := 105) (by decide +kernel) rfl, tsg_in (i := 771) (by decide +kernel) rfl, by decide +kernel⟩
theorem ys_X4_leaf : YS yX4_leaf := tsg_in (i := 770) (by decide +kernel) rfl
theorem yc_X5_mostLost : YC yX5_mostLost cX5_mostLost 3 (some .int) 0 := ⟨tsg_in (i := 106) (by decide +kernel) rfl, tsg_in (i := 775) (by decide +kernel) rfl, by decide +kernel⟩
theorem yv_X5_mostLost : YV yX5_mostLost := ⟨tsg_in (i := 773) (by decide +kernel) rfl, tsg_in (i := 774) (by decide +kernel) rfl⟩
theorem yc_X5_cast : YC yX5_cast cX5_cast 2 (some .int) 1 := ⟨tsg_in (i := 106) (by decide +kernel) rfl, tsg_in (i := 781) (by decide +kernel) rfl, by decide +kernel⟩
theorem yv_X5_cast : YV yX5_cast := ⟨tsg_in (i := 779) (by decide +kernel) rfl, tsg_in (i := 780) (by decide +kernel) rfl⟩
theorem yc_X5_height : YC yX5_height cX5_height 2 (some .int) 1 := ⟨tsg_in (i := 106) (by decide +kernel) rfl, tsg_in (i := 785) (by decide +kernel) rfl, by decide +kernel⟩
theorem yv_X5_height : YV yX5_height := ⟨tsg_in (i := 783) (by decide +kernel) rfl, tsg_in (i := 784) (by decide +kernel) rfl⟩
theorem yc_X4_truth : YC yX4_truth cX4_truth 1 (some .int) 1 := ⟨tsg_in (i := 105) (by decide +kernel) rfl, tsg_in (i := 789) (by decide +kernel) rfl, by decide +kernel⟩
theorem ys_X4_truth : YS yX4_truth := tsg_in (i := 788) (by decide +kernel) rfl
theorem yc_X4_push : YC yX4_push cX4_push 2 none 1 := ⟨tsg_in (i := 105) (by decide +kernel) rfl, tsg_in (i := 793) (by decide +kernel) rfl, by decide +kernel⟩
theorem yv_X4_push : YV yX4_push := ⟨tsg_in (i := 792) (by decide +kernel) rfl, tsg_in (i := 25) (by decide +kernel) rfl⟩
theorem yc_X4_pop : YC yX4_pop cX4_pop 1 (some .int) 0 := ⟨tsg_in (i := 105) (by decide +kernel) rfl, tsg_in (i := 797) (by decide +kernel) rfl, by decide +kernel⟩
theorem yv_X4_pop : YV yX4_pop := ⟨tsg_in (i := 796) (by decide +kernel) rfl, tsg_in (i := 26) (by decide +kernel) rfl⟩
theorem yc_X4_sumOf : YC yX4_sumOf cX4_sumOf 3 (some .int) 3 := ⟨tsg_in (i := 105) (by decide +kernel) rfl, tsg_in (i := 800) (by decide +kernel) rfl, by decide +kernel⟩
theorem ys_X4_sumOf : YS yX4_sumOf := tsg_in (i := 799) (by decide +kernel) rfl
theorem yc_J9_min_7cf53 : YC yJ9_min_7cf53 cJ9_min_7cf53 2 (some .int) 2 := ⟨tsg_in (i := 114) (by decide +kernel) rfl, tsg_in (i := 803) (by decide +kernel) rfl, by decide +kernel⟩
theorem ys_J9_min_7cf53 : YS yJ9_min_7cf53 := tsg_in (i := 802) (by decide +kernel) rfl
theorem yc_X4_testOf : YC yX4_testOf cX4_testOf 3 (some .boolean) 3 := ⟨tsg_in (i := 105) (by decide +kernel) rfl, tsg_in (i := 806) (by decide +kernel) rfl, by decide +kernel⟩
theorem ys_X4_testOf : YS yX4_testOf := tsg_in (i := 805) (by decide +kernel) rfl
theorem yc_X5_giveCurfew : YC yX5_giveCurfew cX5_giveCurfew 4 (some .boolean) 3 := ⟨tsg_in (i := 106) (by decide +kernel) rfl, tsg_in (i := 810) (by decide +kernel) rfl, by decide +kernel⟩
theorem yv_X5_giveCurfew : YV yX5_giveCurfew := ⟨tsg_in (i := 808) (by decide +kernel) rfl, tsg_in (i := 809) (by decide +kernel) rfl⟩
theorem yc_X5_renew : YC yX5_renew cX5_renew 3 none 1 := ⟨tsg_in (i := 106) (by decide +kernel) rfl, tsg_in (i := 814) (by decide +kernel) rfl, by decide +kernel⟩
theorem yv_X5_renew : YV yX5_renew := ⟨tsg_in (i := 813) (by decide +kernel) rfl, tsg_in (i := 27) (by decide +kernel) rfl⟩
theorem yc_X5_giveHeight : YC yX5_giveHeight cX5_giveHeight 3 (some .boolean) 2 := ⟨tsg_in (i := 106) (by decide +kernel) rfl, tsg_in (i := 819) (by decide +kernel) rfl, by decide +kernel⟩
theorem yv_X5_giveHeight : YV yX5_giveHeight := ⟨tsg_in (i := 817) (by decide +kernel) rfl, tsg_in (i := 818) (by decide +kernel) rfl⟩
theorem yc_X8_meanLost : YC yX8_meanLost cX8_meanLost 1 (some .double) 0 := ⟨tsg_in (i := 97) (by decide +kernel) rfl, tsg_in (i := 823) (by decide +kernel) rfl, by decide +kernel⟩
theorem yv_X8_meanLost : YV yX8_meanLost := ⟨tsg_in (i := 821) (by decide +kernel) rfl, tsg_in (i := 822) (by decide +kernel) rfl⟩
theorem yc_X8_digest : YC yX8_digest cX8_digest 5 (some .long) 0 := ⟨tsg_in (i := 97) (by decide +kernel) rfl, tsg_in (i := 827) (by decide +kernel) rfl, by decide +kernel⟩
theorem yv_X8_digest : YV yX8_digest := ⟨tsg_in (i := 825) (by decide +kernel) rfl, tsg_in (i := 826) (by decide +kernel) rfl⟩
theorem yc_X5_firstLow : YC yX5_firstLow cX5_firstLow 2 (some .int) 1 := ⟨tsg_in (i := 106) (by decide +kernel) rfl, tsg_in (i := 841) (by decide +kernel) rfl, by decide +kernel⟩
theorem yv_X5_firstLow : YV yX5_firstLow := ⟨tsg_in (i := 839) (by decide +kernel) rfl, tsg_in (i := 840) (by decide +kernel) rfl⟩
theorem yc_X5_lastLow : YC yX5_lastLow cX5_lastLow 2 (some .int) 1 := ⟨tsg_in (i := 106) (by decide +kernel) rfl, tsg_in (i := 845) (by decide +kernel) rfl, by decide +kernel⟩
theorem yv_X5_lastLow : YV yX5_lastLow := ⟨tsg_in (i := 843) (by decide +kernel) rfl, tsg_in (i := 844) (by decide +kernel) rfl⟩
theorem yc_X8_countDark : YC yX8_countDark cX8_countDark 4 (some .int) 1 := ⟨tsg_in (i := 97) (by decide +kernel) rfl, tsg_in (i := 852) (by decide +kernel) rfl, by decide +kernel⟩
theorem yv_X8_countDark : YV yX8_countDark := ⟨tsg_in (i := 851) (by decide +kernel) rfl, tsg_in (i := 28) (by decide +kernel) rfl⟩
theorem yc_X8_holdsHour : YC yX8_holdsHour cX8_holdsHour 2 (some .boolean) 2 := ⟨tsg_in (i := 97) (by decide +kernel) rfl, tsg_in (i := 856) (by decide +kernel) rfl, by decide +kernel⟩
theorem ys_X8_holdsHour : YS yX8_holdsHour := tsg_in (i := 855) (by decide +kernel) rfl
theorem yc_X8_feed : YC yX8_feed cX8_feed 6 (some .int) 5 := ⟨tsg_in (i := 97) (by decide +kernel) rfl, tsg_in (i := 864) (by decide +kernel) rfl, by decide +kernel⟩
theorem yv_X8_feed : YV yX8_feed := ⟨tsg_in (i := 862) (by decide +kernel) rfl, tsg_in (i := 863) (by decide +kernel) rfl⟩
theorem yc_X6_append : YC yX6_append cX6_append 3 none 1 := ⟨tsg_in (i := 98) (by decide +kernel) rfl, tsg_in (i := 935) (by decide +kernel) rfl, by decide +kernel⟩
theorem yv_X6_append : YV yX6_append := ⟨tsg_in (i := 933) (by decide +kernel) rfl, tsg_in (i := 934) (by decide +kernel) rfl⟩
theorem yc_X8_trim : YC yX8_trim cX8_trim 2 (some .int) 1 := ⟨tsg_in (i := 97) (by decide +kernel) rfl, tsg_in (i := 943) (by decide +kernel) rfl, by decide +kernel⟩
theorem yv_X8_trim : YV yX8_trim := ⟨tsg_in (i := 941) (by decide +kernel) rfl, tsg_in (i := 942) (by decide +kernel) rfl⟩
theorem yc_X8_worstHouse : YC yX8_worstHouse cX8_worstHouse 3 (some .int) 0 := ⟨tsg_in (i := 97) (by decide +kernel) rfl, tsg_in (i := 966) (by decide +kernel) rfl, by decide +kernel⟩
theorem yv_X8_worstHouse : YV yX8_worstHouse := ⟨tsg_in (i := 964) (by decide +kernel) rfl, tsg_in (i := 965) (by decide +kernel) rfl⟩
theorem yc_X8_darkestWall : YC yX8_darkestWall cX8_darkestWall 3 (some .int) 0 := ⟨tsg_in (i := 97) (by decide +kernel) rfl, tsg_in (i := 974) (by decide +kernel) rfl, by decide +kernel⟩
theorem yv_X8_darkestWall : YV yX8_darkestWall := ⟨tsg_in (i := 972) (by decide +kernel) rfl, tsg_in (i := 973) (by decide +kernel) rfl⟩
theorem yc_X8_placeOf : YC yX8_placeOf cX8_placeOf 2 (some .int) 1 := ⟨tsg_in (i := 97) (by decide +kernel) rfl, tsg_in (i := 982) (by decide +kernel) rfl, by decide +kernel⟩
theorem yv_X8_placeOf : YV yX8_placeOf := ⟨tsg_in (i := 980) (by decide +kernel) rfl, tsg_in (i := 981) (by decide +kernel) rfl⟩
theorem yc_X8_checkHouse : YC yX8_checkHouse cX8_checkHouse 2 none 1 := ⟨tsg_in (i := 97) (by decide +kernel) rfl, tsg_in (i := 986) (by decide +kernel) rfl, by decide +kernel⟩
theorem yv_X8_checkHouse : YV yX8_checkHouse := ⟨tsg_in (i := 985) (by decide +kernel) rfl, tsg_in (i := 30) (by decide +kernel) rfl⟩
theorem yc_X8_heightOf : YC yX8_heightOf cX8_heightOf 2 (some .int) 1 := ⟨tsg_in (i := 97) (by decide +kernel) rfl, tsg_in (i := 1010) (by decide +kernel) rfl, by decide +kernel⟩
theorem yv_X8_heightOf : YV yX8_heightOf := ⟨tsg_in (i := 1008) (by decide +kernel) rfl, tsg_in (i := 1009) (by decide +kernel) rfl⟩
theorem yc_X8_hoursLost : YC yX8_hoursLost cX8_hoursLost 2 (some .int) 1 := ⟨tsg_in (i := 97) (by decide +kernel) rfl, tsg_in (i := 1017) (by decide +kernel) rfl, by decide +kernel⟩
theorem yv_X8_hoursLost : YV yX8_hoursLost := ⟨tsg_in (i := 1015) (by decide +kernel) rfl, tsg_in (i := 1016) (by decide +kernel) rfl⟩
theorem yc_X8_castBy : YC yX8_castBy cX8_castBy 2 (some .int) 1 := ⟨tsg_in (i := 97) (by decide +kernel) rfl, tsg_in (i := 1024) (by decide +kernel) rfl, by decide +kernel⟩
theorem yv_X8_castBy : YV yX8_castBy := ⟨tsg_in (i := 1022) (by decide +kernel) rfl, tsg_in (i := 1023) (by decide +kernel) rfl⟩
theorem yc_X8_hasCurfew : YC yX8_hasCurfew cX8_hasCurfew 2 (some .boolean) 1 := ⟨tsg_in (i := 97) (by decide +kernel) rfl, tsg_in (i := 1031) (by decide +kernel) rfl, by decide +kernel⟩
theorem yv_X8_hasCurfew : YV yX8_hasCurfew := ⟨tsg_in (i := 1029) (by decide +kernel) rfl, tsg_in (i := 1030) (by decide +kernel) rfl⟩
theorem yc_X8_curfewFrom : YC yX8_curfewFrom cX8_curfewFrom 2 (some .int) 1 := ⟨tsg_in (i := 97) (by decide +kernel) rfl, tsg_in (i := 1038) (by decide +kernel) rfl, by decide +kernel⟩
theorem yv_X8_curfewFrom : YV yX8_curfewFrom := ⟨tsg_in (i := 1036) (by decide +kernel) rfl, tsg_in (i := 1037) (by decide +kernel) rfl⟩
theorem yc_X8_checkCurfew : YC yX8_checkCurfew cX8_checkCurfew 2 none 1 := ⟨tsg_in (i := 97) (by decide +kernel) rfl, tsg_in (i := 1042) (by decide +kernel) rfl, by decide +kernel⟩
theorem yv_X8_checkCurfew : YV yX8_checkCurfew := ⟨tsg_in (i := 1041) (by decide +kernel) rfl, tsg_in (i := 31) (by decide +kernel) rfl⟩
theorem yc_X8_curfewTo : YC yX8_curfewTo cX8_curfewTo 2 (some .int) 1 := ⟨tsg_in (i := 97) (by decide +kernel) rfl, tsg_in (i := 1050) (by decide +kernel) rfl, by decide +kernel⟩
theorem yv_X8_curfewTo : YV yX8_curfewTo := ⟨tsg_in (i := 1048) (by decide +kernel) rfl, tsg_in (i := 1049) (by decide +kernel) rfl⟩
theorem yc_X8_hoursLostTo : YC yX8_hoursLostTo cX8_hoursLostTo 3 (some .int) 2 := ⟨tsg_in (i := 97) (by decide +kernel) rfl, tsg_in (i := 1057) (by decide +kernel) rfl, by decide +kernel⟩
theorem yv_X8_hoursLostTo : YV yX8_hoursLostTo := ⟨tsg_in (i := 1055) (by decide +kernel) rfl, tsg_in (i := 1056) (by decide +kernel) rfl⟩
theorem yc_X8_heightAt : YC yX8_heightAt cX8_heightAt 3 (some .int) 2 := ⟨tsg_in (i := 97) (by decide +kernel) rfl, tsg_in (i := 1064) (by decide +kernel) rfl, by decide +kernel⟩
theorem yv_X8_heightAt : YV yX8_heightAt := ⟨tsg_in (i := 1062) (by decide +kernel) rfl, tsg_in (i := 1063) (by decide +kernel) rfl⟩
theorem yc_X8_checkHour : YC yX8_checkHour cX8_checkHour 1 none 1 := ⟨tsg_in (i := 97) (by decide +kernel) rfl, tsg_in (i := 1067) (by decide +kernel) rfl, by decide +kernel⟩
theorem ys_X8_checkHour : YS yX8_checkHour := tsg_in (i := 1066) (by decide +kernel) rfl
theorem yc_X8_shadowOf : YC yX8_shadowOf cX8_shadowOf 3 (some .int) 2 := ⟨tsg_in (i := 97) (by decide +kernel) rfl, tsg_in (i := 1076) (by decide +kernel) rfl, by decide +kernel⟩
theorem yv_X8_shadowOf : YV yX8_shadowOf := ⟨tsg_in (i := 1074) (by decide +kernel) rfl, tsg_in (i := 1075) (by decide +kernel) rfl⟩
theorem yc_X5_reach : YC yX5_reach cX5_reach 4 (some .int) 2 := ⟨tsg_in (i := 106) (by decide +kernel) rfl, tsg_in (i := 1080) (by decide +kernel) rfl, by decide +kernel⟩
theorem yv_X5_reach : YV yX5_reach := ⟨tsg_in (i := 1078) (by decide +kernel) rfl, tsg_in (i := 1079) (by decide +kernel) rfl⟩
theorem yc_X8_shades : YC yX8_shades cX8_shades 4 (some .boolean) 3 := ⟨tsg_in (i := 97) (by decide +kernel) rfl, tsg_in (i := 1087) (by decide +kernel) rfl, by decide +kernel⟩
theorem yv_X8_shades : YV yX8_shades := ⟨tsg_in (i := 1085) (by decide +kernel) rfl, tsg_in (i := 1086) (by decide +kernel) rfl⟩
theorem yc_X8_isInTheDark : YC yX8_isInTheDark cX8_isInTheDark 3 (some .boolean) 2 := ⟨tsg_in (i := 97) (by decide +kernel) rfl, tsg_in (i := 1094) (by decide +kernel) rfl, by decide +kernel⟩
theorem yv_X8_isInTheDark : YV yX8_isInTheDark := ⟨tsg_in (i := 1092) (by decide +kernel) rfl, tsg_in (i := 1093) (by decide +kernel) rfl⟩
theorem yc_X8_shadedBy : YC yX8_shadedBy cX8_shadedBy 7 (some .int) 2 := ⟨tsg_in (i := 97) (by decide +kernel) rfl, tsg_in (i := 1101) (by decide +kernel) rfl, by decide +kernel⟩
theorem yv_X8_shadedBy : YV yX8_shadedBy := ⟨tsg_in (i := 1099) (by decide +kernel) rfl, tsg_in (i := 1100) (by decide +kernel) rfl⟩
theorem yc_X8_housesInTheDark : YC yX8_housesInTheDark cX8_housesInTheDark 2 (some .int) 1 := ⟨tsg_in (i := 97) (by decide +kernel) rfl, tsg_in (i := 1110) (by decide +kernel) rfl, by decide +kernel⟩
theorem yv_X8_housesInTheDark : YV yX8_housesInTheDark := ⟨tsg_in (i := 1108) (by decide +kernel) rfl, tsg_in (i := 1109) (by decide +kernel) rfl⟩
theorem yc_X8_setCurfew : YC yX8_setCurfew cX8_setCurfew 4 (some .int) 3 := ⟨tsg_in (i := 97) (by decide +kernel) rfl, tsg_in (i := 1117) (by decide +kernel) rfl, by decide +kernel⟩
theorem yv_X8_setCurfew : YV yX8_setCurfew := ⟨tsg_in (i := 1115) (by decide +kernel) rfl, tsg_in (i := 1116) (by decide +kernel) rfl⟩
theorem yc_X8_endCurfew : YC yX8_endCurfew cX8_endCurfew 2 (some .int) 1 := ⟨tsg_in (i := 97) (by decide +kernel) rfl, tsg_in (i := 1126) (by decide +kernel) rfl, by decide +kernel⟩
theorem yv_X8_endCurfew : YV yX8_endCurfew := ⟨tsg_in (i := 1124) (by decide +kernel) rfl, tsg_in (i := 1125) (by decide +kernel) rfl⟩
theorem yc_X8_build : YC yX8_build cX8_build 4 (some .int) 2 := ⟨tsg_in (i := 97) (by decide +kernel) rfl, tsg_in (i := 1133) (by decide +kernel) rfl, by decide +kernel⟩
theorem yv_X8_build : YV yX8_build := ⟨tsg_in (i := 1131) (by decide +kernel) rfl, tsg_in (i := 1132) (by decide +kernel) rfl⟩
theorem yc_X8_move : YC yX8_move cX8_move 4 (some .int) 2 := ⟨tsg_in (i := 97) (by decide +kernel) rfl, tsg_in (i := 1142) (by decide +kernel) rfl, by decide +kernel⟩
theorem yv_X8_move : YV yX8_move := ⟨tsg_in (i := 1140) (by decide +kernel) rfl, tsg_in (i := 1141) (by decide +kernel) rfl⟩
theorem yc_X5_givePlace : YC yX5_givePlace cX5_givePlace 3 none 2 := ⟨tsg_in (i := 106) (by decide +kernel) rfl, tsg_in (i := 1148) (by decide +kernel) rfl, by decide +kernel⟩
theorem yv_X5_givePlace : YV yX5_givePlace := ⟨tsg_in (i := 1146) (by decide +kernel) rfl, tsg_in (i := 1147) (by decide +kernel) rfl⟩
theorem yc_X8_passDays : YC yX8_passDays cX8_passDays 4 (some .int) 1 := ⟨tsg_in (i := 97) (by decide +kernel) rfl, tsg_in (i := 1155) (by decide +kernel) rfl, by decide +kernel⟩
theorem yv_X8_passDays : YV yX8_passDays := ⟨tsg_in (i := 1153) (by decide +kernel) rfl, tsg_in (i := 1154) (by decide +kernel) rfl⟩
theorem yc_X8_checkDays : YC yX8_checkDays cX8_checkDays 1 none 1 := ⟨tsg_in (i := 97) (by decide +kernel) rfl, tsg_in (i := 1158) (by decide +kernel) rfl, by decide +kernel⟩
theorem ys_X8_checkDays : YS yX8_checkDays := tsg_in (i := 1157) (by decide +kernel) rfl
theorem yc_X8_lostAfter : YC yX8_lostAfter cX8_lostAfter 3 (some .int) 1 := ⟨tsg_in (i := 97) (by decide +kernel) rfl, tsg_in (i := 1166) (by decide +kernel) rfl, by decide +kernel⟩
theorem yv_X8_lostAfter : YV yX8_lostAfter := ⟨tsg_in (i := 1164) (by decide +kernel) rfl, tsg_in (i := 1165) (by decide +kernel) rfl⟩
theorem yc_X8_fairCurfew : YC yX8_fairCurfew cX8_fairCurfew 6 (some .int) 2 := ⟨tsg_in (i := 97) (by decide +kernel) rfl, tsg_in (i := 1173) (by decide +kernel) rfl, by decide +kernel⟩
theorem yv_X8_fairCurfew : YV yX8_fairCurfew := ⟨tsg_in (i := 1171) (by decide +kernel) rfl, tsg_in (i := 1172) (by decide +kernel) rfl⟩
theorem yc_X8_checkCurfewHours : YC yX8_checkCurfewHours cX8_checkCurfewHours 1 none 1 := ⟨tsg_in (i := 97) (by decide +kernel) rfl, tsg_in (i := 1176) (by decide +kernel) rfl, by decide +kernel⟩
theorem ys_X8_checkCurfewHours : YS yX8_checkCurfewHours := tsg_in (i := 1175) (by decide +kernel) rfl
theorem yc_X8_fairestWall : YC yX8_fairestWall cX8_fairestWall 6 (some .int) 1 := ⟨tsg_in (i := 97) (by decide +kernel) rfl, tsg_in (i := 1184) (by decide +kernel) rfl, by decide +kernel⟩
theorem yv_X8_fairestWall : YV yX8_fairestWall := ⟨tsg_in (i := 1182) (by decide +kernel) rfl, tsg_in (i := 1183) (by decide +kernel) rfl⟩
theorem yc_X10_init : YC yX10_init cX10_init 1 none 0 := ⟨tsg_in (i := 107) (by decide +kernel) rfl, tsg_in (i := 1189) (by decide +kernel) rfl, by decide +kernel⟩
theorem yi_X10_init : YI yX10_init := ⟨tsg_in (i := 1188) (by decide +kernel) rfl, rfl⟩
theorem yc_X9_init : YC yX9_init cX9_init 1 none 0 := ⟨tsg_in (i := 108) (by decide +kernel) rfl, tsg_in (i := 1195) (by decide +kernel) rfl, by decide +kernel⟩
theorem yi_X9_init : YI yX9_init := ⟨tsg_in (i := 1194) (by decide +kernel) rfl, rfl⟩
theorem yc_X10_thrown : YC yX10_thrown cX10_thrown 1 (some .int) 0 := ⟨tsg_in (i := 107) (by decide +kernel) rfl, tsg_in (i := 1329) (by decide +kernel) rfl, by decide +kernel⟩
theorem yv_X10_thrown : YV yX10_thrown := ⟨tsg_in (i := 1327) (by decide +kernel) rfl, tsg_in (i := 1328) (by decide +kernel) rfl⟩
theorem yc_X10_feed : YC yX10_feed cX10_feed 8 (some .int) 5 := ⟨tsg_in (i := 107) (by decide +kernel) rfl, tsg_in (i := 1333) (by decide +kernel) rfl, by decide +kernel⟩
theorem yv_X10_feed : YV yX10_feed := ⟨tsg_in (i := 1331) (by decide +kernel) rfl, tsg_in (i := 1332) (by decide +kernel) rfl⟩
theorem yc_X10_no : YC yX10_no cX10_no 2 (some .int) 1 := ⟨tsg_in (i := 107) (by decide +kernel) rfl, tsg_in (i := 1337) (by decide +kernel) rfl, by decide +kernel⟩
theorem yv_X10_no : YV yX10_no := ⟨tsg_in (i := 1336) (by decide +kernel) rfl, tsg_in (i := 32) (by decide +kernel) rfl⟩
theorem yc_X10_trim : YC yX10_trim cX10_trim 2 (some .int) 1 := ⟨tsg_in (i := 107) (by decide +kernel) rfl, tsg_in (i := 1341) (by decide +kernel) rfl, by decide +kernel⟩
theorem yv_X10_trim : YV yX10_trim := ⟨tsg_in (i := 1339) (by decide +kernel) rfl, tsg_in (i := 1340) (by decide +kernel) rfl⟩
theorem yc_X10_isIn : YC yX10_isIn cX10_isIn 3 (some .boolean) 3 := ⟨tsg_in (i := 107) (by decide +kernel) rfl, tsg_in (i := 1344) (by decide +kernel) rfl, by decide +kernel⟩
theorem ys_X10_isIn : YS yX10_isIn := tsg_in (i := 1343) (by decide +kernel) rfl
theorem yc_X10_teach : YC yX10_teach cX10_teach 4 (some .int) 0 := ⟨tsg_in (i := 107) (by decide +kernel) rfl, tsg_in (i := 1348) (by decide +kernel) rfl, by decide +kernel⟩
theorem yv_X10_teach : YV yX10_teach := ⟨tsg_in (i := 1346) (by decide +kernel) rfl, tsg_in (i := 1347) (by decide +kernel) rfl⟩
theorem yc_X10_read : YC yX10_read cX10_read 4 (some .int) 1 := ⟨tsg_in (i := 107) (by decide +kernel) rfl, tsg_in (i := 1352) (by decide +kernel) rfl, by decide +kernel⟩
theorem yv_X10_read : YV yX10_read := ⟨tsg_in (i := 1351) (by decide +kernel) rfl, tsg_in (i := 33) (by decide +kernel) rfl⟩
theorem yc_X10_cutIntoTokens : YC yX10_cutIntoTokens cX10_cutIntoTokens 4 none 0 := ⟨tsg_in (i := 107) (by decide +kernel) rfl, tsg_in (i := 1356) (by decide +kernel) rfl, by decide +kernel⟩
theorem yv_X10_cutIntoTokens : YV yX10_cutIntoTokens := ⟨tsg_in (i := 1355) (by decide +kernel) rfl, tsg_in (i := 34) (by decide +kernel) rfl⟩
theorem yc_X10_byteOf : YC yX10_byteOf cX10_byteOf 2 (some .int) 1 := ⟨tsg_in (i := 107) (by decide +kernel) rfl, tsg_in (i := 1360) (by decide +kernel) rfl, by decide +kernel⟩
theorem yv_X10_byteOf : YV yX10_byteOf := ⟨tsg_in (i := 1359) (by decide +kernel) rfl, tsg_in (i := 35) (by decide +kernel) rfl⟩
theorem yc_X10_endOf : YC yX10_endOf cX10_endOf 4 (some .int) 1 := ⟨tsg_in (i := 107) (by decide +kernel) rfl, tsg_in (i := 1364) (by decide +kernel) rfl, by decide +kernel⟩
theorem yv_X10_endOf : YV yX10_endOf := ⟨tsg_in (i := 1363) (by decide +kernel) rfl, tsg_in (i := 36) (by decide +kernel) rfl⟩
theorem yc_X10_isSmall : YC yX10_isSmall cX10_isSmall 1 (some .boolean) 1 := ⟨tsg_in (i := 107) (by decide +kernel) rfl, tsg_in (i := 1367) (by decide +kernel) rfl, by decide +kernel⟩
theorem ys_X10_isSmall : YS yX10_isSmall := tsg_in (i := 1366) (by decide +kernel) rfl
theorem yc_X10_isDigit : YC yX10_isDigit cX10_isDigit 1 (some .boolean) 1 := ⟨tsg_in (i := 107) (by decide +kernel) rfl, tsg_in (i := 1370) (by decide +kernel) rfl, by decide +kernel⟩
theorem ys_X10_isDigit : YS yX10_isDigit := tsg_in (i := 1369) (by decide +kernel) rfl
theorem yc_X10_kindOf : YC yX10_kindOf cX10_kindOf 5 (some .int) 3 := ⟨tsg_in (i := 107) (by decide +kernel) rfl, tsg_in (i := 1374) (by decide +kernel) rfl, by decide +kernel⟩
theorem yv_X10_kindOf : YV yX10_kindOf := ⟨tsg_in (i := 1373) (by decide +kernel) rfl, tsg_in (i := 37) (by decide +kernel) rfl⟩
theorem yc_X10_numberAt : YC yX10_numberAt cX10_numberAt 6 (some .int) 3 := ⟨tsg_in (i := 107) (by decide +kernel) rfl, tsg_in (i := 1378) (by decide +kernel) rfl, by decide +kernel⟩
theorem yv_X10_numberAt : YV yX10_numberAt := ⟨tsg_in (i := 1377) (by decide +kernel) rfl, tsg_in (i := 38) (by decide +kernel) rfl⟩
theorem yc_X10_wordAt : YC yX10_wordAt cX10_wordAt 7 (some .int) 3 := ⟨tsg_in (i := 107) (by decide +kernel) rfl, tsg_in (i := 1382) (by decide +kernel) rfl, by decide +kernel⟩
theorem yv_X10_wordAt : YV yX10_wordAt := ⟨tsg_in (i := 1381) (by decide +kernel) rfl, tsg_in (i := 39) (by decide +kernel) rfl⟩
theorem yc_X10_letter : YC yX10_letter cX10_letter 1 (some .int) 1 := ⟨tsg_in (i := 107) (by decide +kernel) rfl, tsg_in (i := 1386) (by decide +kernel) rfl, by decide +kernel⟩
theorem ys_X10_letter : YS yX10_letter := tsg_in (i := 1385) (by decide +kernel) rfl
theorem yc_X10_nameOf : YC yX10_nameOf cX10_nameOf 4 (some .long) 1 := ⟨tsg_in (i := 107) (by decide +kernel) rfl, tsg_in (i := 1391) (by decide +kernel) rfl, by decide +kernel⟩
theorem ys_X10_nameOf : YS yX10_nameOf := tsg_in (i := 1390) (by decide +kernel) rfl
theorem yc_J0_length_8abf5 : YC yJ0_length_8abf5 cJ0_length_8abf5 1 (some .int) 0 := ⟨tsg_in (i := 116) (by decide +kernel) rfl, tsg_in (i := 1395) (by decide +kernel) rfl, by decide +kernel⟩
theorem yv_J0_length_8abf5 : YV yJ0_length_8abf5 := ⟨tsg_in (i := 1393) (by decide +kernel) rfl, tsg_in (i := 1394) (by decide +kernel) rfl⟩
theorem yc_J0_isLatin1_aae02 : YC yJ0_isLatin1_aae02 cJ0_isLatin1_aae02 1 (some .boolean) 0 := ⟨tsg_in (i := 116) (by decide +kernel) rfl, tsg_in (i := 1409) (by decide +kernel) rfl, by decide +kernel⟩
theorem yv_J0_isLatin1_aae02 : YV yJ0_isLatin1_aae02 := ⟨tsg_in (i := 1407) (by decide +kernel) rfl, tsg_in (i := 1408) (by decide +kernel) rfl⟩
theorem yc_J0_checkIndex_df160 : YC yJ0_checkIndex_df160 cJ0_checkIndex_df160 2 none 2 := ⟨tsg_in (i := 116) (by decide +kernel) rfl, tsg_in (i := 1415) (by decide +kernel) rfl, by decide +kernel⟩
theorem ys_J0_checkIndex_df160 : YS yJ0_checkIndex_df160 := tsg_in (i := 1414) (by decide +kernel) rfl
theorem yc_J3_checkIndex_8e157 : YC yJ3_checkIndex_8e157 cJ3_checkIndex_8e157 3 (some .int) 3 := ⟨tsg_in (i := 118) (by decide +kernel) rfl, tsg_in (i := 1420) (by decide +kernel) rfl, by decide +kernel⟩
theorem ys_J3_checkIndex_8e157 : YS yJ3_checkIndex_8e157 := tsg_in (i := 1419) (by decide +kernel) rfl
theorem yc_J2_checkIndex_2214a : YC yJ2_checkIndex_2214a cJ2_checkIndex_2214a 2 none 2 := ⟨tsg_in (i := 119) (by decide +kernel) rfl, tsg_in (i := 1426) (by decide +kernel) rfl, by decide +kernel⟩
theorem ys_J2_checkIndex_2214a : YS yJ2_checkIndex_2214a := tsg_in (i := 1425) (by decide +kernel) rfl
theorem yc_J2_length_9d52b : YC yJ2_length_9d52b cJ2_length_9d52b 1 (some .int) 1 := ⟨tsg_in (i := 119) (by decide +kernel) rfl, tsg_in (i := 1429) (by decide +kernel) rfl, by decide +kernel⟩
theorem ys_J2_length_9d52b : YS yJ2_length_9d52b := tsg_in (i := 1428) (by decide +kernel) rfl
theorem yc_X10_isBook : YC yX10_isBook cX10_isBook 2 (some .boolean) 1 := ⟨tsg_in (i := 107) (by decide +kernel) rfl, tsg_in (i := 1443) (by decide +kernel) rfl, by decide +kernel⟩
theorem yv_X10_isBook : YV yX10_isBook := ⟨tsg_in (i := 1442) (by decide +kernel) rfl, tsg_in (i := 40) (by decide +kernel) rfl⟩
theorem yc_X10_isLine : YC yX10_isLine cX10_isLine 2 (some .boolean) 1 := ⟨tsg_in (i := 107) (by decide +kernel) rfl, tsg_in (i := 1447) (by decide +kernel) rfl, by decide +kernel⟩
theorem yv_X10_isLine : YV yX10_isLine := ⟨tsg_in (i := 1446) (by decide +kernel) rfl, tsg_in (i := 41) (by decide +kernel) rfl⟩
theorem yc_X10_isLaw : YC yX10_isLaw cX10_isLaw 4 (some .boolean) 1 := ⟨tsg_in (i := 107) (by decide +kernel) rfl, tsg_in (i := 1451) (by decide +kernel) rfl, by decide +kernel⟩
theorem yv_X10_isLaw : YV yX10_isLaw := ⟨tsg_in (i := 1450) (by decide +kernel) rfl, tsg_in (i := 42) (by decide +kernel) rfl⟩
theorem yc_X10_eatAs : YC yX10_eatAs cX10_eatAs 3 (some .boolean) 2 := ⟨tsg_in (i := 107) (by decide +kernel) rfl, tsg_in (i := 1456) (by decide +kernel) rfl, by decide +kernel⟩
theorem yv_X10_eatAs : YV yX10_eatAs := ⟨tsg_in (i := 1455) (by decide +kernel) rfl, tsg_in (i := 43) (by decide +kernel) rfl⟩
theorem yc_X10_eat : YC yX10_eat cX10_eat 2 (some .boolean) 1 := ⟨tsg_in (i := 107) (by decide +kernel) rfl, tsg_in (i := 1460) (by decide +kernel) rfl, by decide +kernel⟩
theorem yv_X10_eat : YV yX10_eat := ⟨tsg_in (i := 1459) (by decide +kernel) rfl, tsg_in (i := 44) (by decide +kernel) rfl⟩
theorem yc_X10_isPart : YC yX10_isPart cX10_isPart 4 (some .boolean) 3 := ⟨tsg_in (i := 107) (by decide +kernel) rfl, tsg_in (i := 1464) (by decide +kernel) rfl, by decide +kernel⟩
theorem yv_X10_isPart : YV yX10_isPart := ⟨tsg_in (i := 1463) (by decide +kernel) rfl, tsg_in (i := 45) (by decide +kernel) rfl⟩
theorem yc_X10_begins : YC yX10_begins cX10_begins 4 none 3 := ⟨tsg_in (i := 107) (by decide +kernel) rfl, tsg_in (i := 1468) (by decide +kernel) rfl, by decide +kernel⟩
theorem yv_X10_begins : YV yX10_begins := ⟨tsg_in (i := 1467) (by decide +kernel) rfl, tsg_in (i := 46) (by decide +kernel) rfl⟩
theorem yc_X10_isTest : YC yX10_isTest cX10_isTest 2 (some .boolean) 1 := ⟨tsg_in (i := 107) (by decide +kernel) rfl, tsg_in (i := 1472) (by decide +kernel) rfl, by decide +kernel⟩
theorem yv_X10_isTest : YV yX10_isTest := ⟨tsg_in (i := 1471) (by decide +kernel) rfl, tsg_in (i := 47) (by decide +kernel) rfl⟩
theorem yc_X10_isBoth : YC yX10_isBoth cX10_isBoth 2 (some .boolean) 1 := ⟨tsg_in (i := 107) (by decide +kernel) rfl, tsg_in (i := 1476) (by decide +kernel) rfl, by decide +kernel⟩
theorem yv_X10_isBoth : YV yX10_isBoth := ⟨tsg_in (i := 1475) (by decide +kernel) rfl, tsg_in (i := 48) (by decide +kernel) rfl⟩
theorem yc_X10_isSingle : YC yX10_isSingle cX10_isSingle 3 (some .boolean) 1 := ⟨tsg_in (i := 107) (by decide +kernel) rfl, tsg_in (i := 1480) (by decide +kernel) rfl, by decide +kernel⟩
theorem yv_X10_isSingle : YV yX10_isSingle := ⟨tsg_in (i := 1479) (by decide +kernel) rfl, tsg_in (i := 49) (by decide +kernel) rfl⟩
theorem yc_X10_deeper : YC yX10_deeper cX10_deeper 2 (some .boolean) 1 := ⟨tsg_in (i := 107) (by decide +kernel) rfl, tsg_in (i := 1484) (by decide +kernel) rfl, by decide +kernel⟩
theorem yv_X10_deeper : YV yX10_deeper := ⟨tsg_in (i := 1483) (by decide +kernel) rfl, tsg_in (i := 50) (by decide +kernel) rfl⟩
theorem yc_X10_put : YC yX10_put cX10_put 4 none 3 := ⟨tsg_in (i := 107) (by decide +kernel) rfl, tsg_in (i := 1488) (by decide +kernel) rfl, by decide +kernel⟩
theorem yv_X10_put : YV yX10_put := ⟨tsg_in (i := 1487) (by decide +kernel) rfl, tsg_in (i := 51) (by decide +kernel) rfl⟩
theorem yc_X10_closes : YC yX10_closes cX10_closes 2 (some .boolean) 1 := ⟨tsg_in (i := 107) (by decide +kernel) rfl, tsg_in (i := 1492) (by decide +kernel) rfl, by decide +kernel⟩
theorem yv_X10_closes : YV yX10_closes := ⟨tsg_in (i := 1491) (by decide +kernel) rfl, tsg_in (i := 52) (by decide +kernel) rfl⟩
theorem yc_X10_isAbout : YC yX10_isAbout cX10_isAbout 4 (some .boolean) 2 := ⟨tsg_in (i := 107) (by decide +kernel) rfl, tsg_in (i := 1496) (by decide +kernel) rfl, by decide +kernel⟩
theorem yv_X10_isAbout : YV yX10_isAbout := ⟨tsg_in (i := 1495) (by decide +kernel) rfl, tsg_in (i := 53) (by decide +kernel) rfl⟩
theorem yc_X10_isCompare : YC yX10_isCompare cX10_isCompare 4 (some .boolean) 1 := ⟨tsg_in (i := 107) (by decide +kernel) rfl, tsg_in (i := 1500) (by decide +kernel) rfl, by decide +kernel⟩
theorem yv_X10_isCompare : YV yX10_isCompare := ⟨tsg_in (i := 1499) (by decide +kernel) rfl, tsg_in (i := 54) (by decide +kernel) rfl⟩
theorem yc_X10_isSum : YC yX10_isSum cX10_isSum 3 (some .boolean) 1 := ⟨tsg_in (i := 107) (by decide +kernel) rfl, tsg_in (i := 1504) (by decide +kernel) rfl, by decide +kernel⟩
theorem yv_X10_isSum : YV yX10_isSum := ⟨tsg_in (i := 1503) (by decide +kernel) rfl, tsg_in (i := 55) (by decide +kernel) rfl⟩
theorem yc_X10_isProduct : YC yX10_isProduct cX10_isProduct 3 (some .boolean) 1 := ⟨tsg_in (i := 107) (by decide +kernel) rfl, tsg_in (i := 1508) (by decide +kernel) rfl, by decide +kernel⟩
theorem yv_X10_isProduct : YV yX10_isProduct := ⟨tsg_in (i := 1507) (by decide +kernel) rfl, tsg_in (i := 56) (by decide +kernel) rfl⟩
theorem yc_X10_isValue : YC yX10_isValue cX10_isValue 3 (some .boolean) 1 := ⟨tsg_in (i := 107) (by decide +kernel) rfl, tsg_in (i := 1512) (by decide +kernel) rfl, by decide +kernel⟩
theorem yv_X10_isValue : YV yX10_isValue := ⟨tsg_in (i := 1511) (by decide +kernel) rfl, tsg_in (i := 57) (by decide +kernel) rfl⟩
theorem yc_X10_isOfTwo : YC yX10_isOfTwo cX10_isOfTwo 3 (some .boolean) 2 := ⟨tsg_in (i := 107) (by decide +kernel) rfl, tsg_in (i := 1516) (by decide +kernel) rfl, by decide +kernel⟩
theorem yv_X10_isOfTwo : YV yX10_isOfTwo := ⟨tsg_in (i := 1515) (by decide +kernel) rfl, tsg_in (i := 58) (by decide +kernel) rfl⟩
theorem yc_X10_ends : YC yX10_ends cX10_ends 4 none 3 := ⟨tsg_in (i := 107) (by decide +kernel) rfl, tsg_in (i := 1520) (by decide +kernel) rfl, by decide +kernel⟩
theorem yv_X10_ends : YV yX10_ends := ⟨tsg_in (i := 1519) (by decide +kernel) rfl, tsg_in (i := 59) (by decide +kernel) rfl⟩
theorem yc_X10_errorOf : YC yX10_errorOf cX10_errorOf 4 (some .int) 2 := ⟨tsg_in (i := 107) (by decide +kernel) rfl, tsg_in (i := 1524) (by decide +kernel) rfl, by decide +kernel⟩
theorem yv_X10_errorOf : YV yX10_errorOf := ⟨tsg_in (i := 1523) (by decide +kernel) rfl, tsg_in (i := 60) (by decide +kernel) rfl⟩
theorem yc_X10_newHouse : YC yX10_newHouse cX10_newHouse 4 (some .int) 2 := ⟨tsg_in (i := 107) (by decide +kernel) rfl, tsg_in (i := 1528) (by decide +kernel) rfl, by decide +kernel⟩
theorem yv_X10_newHouse : YV yX10_newHouse := ⟨tsg_in (i := 1527) (by decide +kernel) rfl, tsg_in (i := 61) (by decide +kernel) rfl⟩
theorem yc_X10_find : YC yX10_find cX10_find 4 (some .int) 2 := ⟨tsg_in (i := 107) (by decide +kernel) rfl, tsg_in (i := 1531) (by decide +kernel) rfl, by decide +kernel⟩
theorem ys_X10_find : YS yX10_find := tsg_in (i := 1530) (by decide +kernel) rfl
theorem yc_X10_itsPlace : YC yX10_itsPlace cX10_itsPlace 6 (some .int) 2 := ⟨tsg_in (i := 107) (by decide +kernel) rfl, tsg_in (i := 1535) (by decide +kernel) rfl, by decide +kernel⟩
theorem yv_X10_itsPlace : YV yX10_itsPlace := ⟨tsg_in (i := 1534) (by decide +kernel) rfl, tsg_in (i := 62) (by decide +kernel) rfl⟩
theorem yc_X10_itsHeight : YC yX10_itsHeight cX10_itsHeight 4 (some .int) 2 := ⟨tsg_in (i := 107) (by decide +kernel) rfl, tsg_in (i := 1540) (by decide +kernel) rfl, by decide +kernel⟩
theorem yv_X10_itsHeight : YV yX10_itsHeight := ⟨tsg_in (i := 1539) (by decide +kernel) rfl, tsg_in (i := 63) (by decide +kernel) rfl⟩
theorem yc_X10_newLaw : YC yX10_newLaw cX10_newLaw 2 (some .int) 1 := ⟨tsg_in (i := 107) (by decide +kernel) rfl, tsg_in (i := 1545) (by decide +kernel) rfl, by decide +kernel⟩
theorem yv_X10_newLaw : YV yX10_newLaw := ⟨tsg_in (i := 1544) (by decide +kernel) rfl, tsg_in (i := 64) (by decide +kernel) rfl⟩
theorem yc_X10_aHouse : YC yX10_aHouse cX10_aHouse 3 (some .int) 2 := ⟨tsg_in (i := 107) (by decide +kernel) rfl, tsg_in (i := 1549) (by decide +kernel) rfl, by decide +kernel⟩
theorem yv_X10_aHouse : YV yX10_aHouse := ⟨tsg_in (i := 1548) (by decide +kernel) rfl, tsg_in (i := 65) (by decide +kernel) rfl⟩
theorem yc_X10_settle : YC yX10_settle cX10_settle 4 none 1 := ⟨tsg_in (i := 107) (by decide +kernel) rfl, tsg_in (i := 1553) (by decide +kernel) rfl, by decide +kernel⟩
theorem yv_X10_settle : YV yX10_settle := ⟨tsg_in (i := 1552) (by decide +kernel) rfl, tsg_in (i := 66) (by decide +kernel) rfl⟩
theorem yc_X10_raiseTo : YC yX10_raiseTo cX10_raiseTo 3 none 2 := ⟨tsg_in (i := 107) (by decide +kernel) rfl, tsg_in (i := 1557) (by decide +kernel) rfl, by decide +kernel⟩
theorem yv_X10_raiseTo : YV yX10_raiseTo := ⟨tsg_in (i := 1556) (by decide +kernel) rfl, tsg_in (i := 67) (by decide +kernel) rfl⟩
theorem yc_X10_curfew : YC yX10_curfew cX10_curfew 4 none 3 := ⟨tsg_in (i := 107) (by decide +kernel) rfl, tsg_in (i := 1561) (by decide +kernel) rfl, by decide +kernel⟩
theorem yv_X10_curfew : YV yX10_curfew := ⟨tsg_in (i := 1560) (by decide +kernel) rfl, tsg_in (i := 68) (by decide +kernel) rfl⟩
theorem yc_X10_errorAt : YC yX10_errorAt cX10_errorAt 1 (some .int) 0 := ⟨tsg_in (i := 107) (by decide +kernel) rfl, tsg_in (i := 1565) (by decide +kernel) rfl, by decide +kernel⟩
theorem yv_X10_errorAt : YV yX10_errorAt := ⟨tsg_in (i := 1563) (by decide +kernel) rfl, tsg_in (i := 1564) (by decide +kernel) rfl⟩
theorem yc_X10_ok : YC yX10_ok cX10_ok 2 (some .int) 1 := ⟨tsg_in (i := 107) (by decide +kernel) rfl, tsg_in (i := 1569) (by decide +kernel) rfl, by decide +kernel⟩
theorem yv_X10_ok : YV yX10_ok := ⟨tsg_in (i := 1568) (by decide +kernel) rfl, tsg_in (i := 69) (by decide +kernel) rfl⟩
theorem yc_X10_houses : YC yX10_houses cX10_houses 1 (some .int) 0 := ⟨tsg_in (i := 107) (by decide +kernel) rfl, tsg_in (i := 1573) (by decide +kernel) rfl, by decide +kernel⟩
theorem yv_X10_houses : YV yX10_houses := ⟨tsg_in (i := 1571) (by decide +kernel) rfl, tsg_in (i := 1572) (by decide +kernel) rfl⟩
theorem yc_X10_laws : YC yX10_laws cX10_laws 1 (some .int) 0 := ⟨tsg_in (i := 107) (by decide +kernel) rfl, tsg_in (i := 1577) (by decide +kernel) rfl, by decide +kernel⟩
theorem yv_X10_laws : YV yX10_laws := ⟨tsg_in (i := 1575) (by decide +kernel) rfl, tsg_in (i := 1576) (by decide +kernel) rfl⟩
theorem yc_X10_days : YC yX10_days cX10_days 1 (some .int) 0 := ⟨tsg_in (i := 107) (by decide +kernel) rfl, tsg_in (i := 1581) (by decide +kernel) rfl, by decide +kernel⟩
theorem yv_X10_days : YV yX10_days := ⟨tsg_in (i := 1579) (by decide +kernel) rfl, tsg_in (i := 1580) (by decide +kernel) rfl⟩
theorem yc_X10_lawsCarriedOut : YC yX10_lawsCarriedOut cX10_lawsCarriedOut 1 (some .int) 0 := ⟨tsg_in (i := 107) (by decide +kernel) rfl, tsg_in (i := 1585) (by decide +kernel) rfl, by decide +kernel⟩
theorem yv_X10_lawsCarriedOut : YV yX10_lawsCarriedOut := ⟨tsg_in (i := 1583) (by decide +kernel) rfl, tsg_in (i := 1584) (by decide +kernel) rfl⟩
theorem yc_X10_allHoursLost : YC yX10_allHoursLost cX10_allHoursLost 1 (some .int) 0 := ⟨tsg_in (i := 107) (by decide +kernel) rfl, tsg_in (i := 1589) (by decide +kernel) rfl, by decide +kernel⟩
theorem yv_X10_allHoursLost : YV yX10_allHoursLost := ⟨tsg_in (i := 1587) (by decide +kernel) rfl, tsg_in (i := 1588) (by decide +kernel) rfl⟩
theorem yc_X10_allLost : YC yX10_allLost cX10_allLost 3 (some .int) 0 := ⟨tsg_in (i := 107) (by decide +kernel) rfl, tsg_in (i := 1593) (by decide +kernel) rfl, by decide +kernel⟩
theorem yv_X10_allLost : YV yX10_allLost := ⟨tsg_in (i := 1592) (by decide +kernel) rfl, tsg_in (i := 70) (by decide +kernel) rfl⟩
theorem yc_X10_lostBy : YC yX10_lostBy cX10_lostBy 2 (some .int) 1 := ⟨tsg_in (i := 107) (by decide +kernel) rfl, tsg_in (i := 1597) (by decide +kernel) rfl, by decide +kernel⟩
theorem yv_X10_lostBy : YV yX10_lostBy := ⟨tsg_in (i := 1596) (by decide +kernel) rfl, tsg_in (i := 71) (by decide +kernel) rfl⟩
theorem yc_X10_look : YC yX10_look cX10_look 5 none 0 := ⟨tsg_in (i := 107) (by decide +kernel) rfl, tsg_in (i := 1601) (by decide +kernel) rfl, by decide +kernel⟩
theorem yv_X10_look : YV yX10_look := ⟨tsg_in (i := 1600) (by decide +kernel) rfl, tsg_in (i := 72) (by decide +kernel) rfl⟩
theorem yc_X10_shadesNow : YC yX10_shadesNow cX10_shadesNow 5 (some .boolean) 3 := ⟨tsg_in (i := 107) (by decide +kernel) rfl, tsg_in (i := 1605) (by decide +kernel) rfl, by decide +kernel⟩
theorem yv_X10_shadesNow : YV yX10_shadesNow := ⟨tsg_in (i := 1604) (by decide +kernel) rfl, tsg_in (i := 73) (by decide +kernel) rfl⟩
theorem yc_X10_reach : YC yX10_reach cX10_reach 3 (some .int) 2 := ⟨tsg_in (i := 107) (by decide +kernel) rfl, tsg_in (i := 1609) (by decide +kernel) rfl, by decide +kernel⟩
theorem yv_X10_reach : YV yX10_reach := ⟨tsg_in (i := 1608) (by decide +kernel) rfl, tsg_in (i := 74) (by decide +kernel) rfl⟩
theorem yc_X10_tall : YC yX10_tall cX10_tall 3 (some .int) 2 := ⟨tsg_in (i := 107) (by decide +kernel) rfl, tsg_in (i := 1613) (by decide +kernel) rfl, by decide +kernel⟩
theorem yv_X10_tall : YV yX10_tall := ⟨tsg_in (i := 1612) (by decide +kernel) rfl, tsg_in (i := 75) (by decide +kernel) rfl⟩
theorem yc_X10_steps : YC yX10_steps cX10_steps 1 (some .int) 1 := ⟨tsg_in (i := 107) (by decide +kernel) rfl, tsg_in (i := 1616) (by decide +kernel) rfl, by decide +kernel⟩
theorem ys_X10_steps : YS yX10_steps := tsg_in (i := 1615) (by decide +kernel) rfl
theorem yc_X10_one : YC yX10_one cX10_one 1 (some .int) 1 := ⟨tsg_in (i := 107) (by decide +kernel) rfl, tsg_in (i := 1620) (by decide +kernel) rfl, by decide +kernel⟩
theorem ys_X10_one : YS yX10_one := tsg_in (i := 1619) (by decide +kernel) rfl
theorem yc_X10_lightHouses : YC yX10_lightHouses cX10_lightHouses 1 (some .int) 0 := ⟨tsg_in (i := 107) (by decide +kernel) rfl, tsg_in (i := 1625) (by decide +kernel) rfl, by decide +kernel⟩
theorem yv_X10_lightHouses : YV yX10_lightHouses := ⟨tsg_in (i := 1623) (by decide +kernel) rfl, tsg_in (i := 1624) (by decide +kernel) rfl⟩
theorem yc_X10_light : YC yX10_light cX10_light 3 (some .int) 0 := ⟨tsg_in (i := 107) (by decide +kernel) rfl, tsg_in (i := 1629) (by decide +kernel) rfl, by decide +kernel⟩
theorem yv_X10_light : YV yX10_light := ⟨tsg_in (i := 1628) (by decide +kernel) rfl, tsg_in (i := 76) (by decide +kernel) rfl⟩
theorem yc_X10_worstHouse : YC yX10_worstHouse cX10_worstHouse 1 (some .int) 0 := ⟨tsg_in (i := 107) (by decide +kernel) rfl, tsg_in (i := 1633) (by decide +kernel) rfl, by decide +kernel⟩
theorem yv_X10_worstHouse : YV yX10_worstHouse := ⟨tsg_in (i := 1631) (by decide +kernel) rfl, tsg_in (i := 1632) (by decide +kernel) rfl⟩
theorem yc_X10_worstOf : YC yX10_worstOf cX10_worstOf 3 (some .int) 0 := ⟨tsg_in (i := 107) (by decide +kernel) rfl, tsg_in (i := 1637) (by decide +kernel) rfl, by decide +kernel⟩
theorem yv_X10_worstOf : YV yX10_worstOf := ⟨tsg_in (i := 1636) (by decide +kernel) rfl, tsg_in (i := 77) (by decide +kernel) rfl⟩
theorem yc_X10_darkestWall : YC yX10_darkestWall cX10_darkestWall 3 (some .int) 0 := ⟨tsg_in (i := 107) (by decide +kernel) rfl, tsg_in (i := 1641) (by decide +kernel) rfl, by decide +kernel⟩
theorem yv_X10_darkestWall : YV yX10_darkestWall := ⟨tsg_in (i := 1639) (by decide +kernel) rfl, tsg_in (i := 1640) (by decide +kernel) rfl⟩
theorem yc_X10_castOf : YC yX10_castOf cX10_castOf 4 (some .int) 1 := ⟨tsg_in (i := 107) (by decide +kernel) rfl, tsg_in (i := 1645) (by decide +kernel) rfl, by decide +kernel⟩
theorem yv_X10_castOf : YV yX10_castOf := ⟨tsg_in (i := 1644) (by decide +kernel) rfl, tsg_in (i := 78) (by decide +kernel) rfl⟩
theorem yc_X10_lostTo : YC yX10_lostTo cX10_lostTo 3 (some .int) 2 := ⟨tsg_in (i := 107) (by decide +kernel) rfl, tsg_in (i := 1649) (by decide +kernel) rfl, by decide +kernel⟩
theorem yv_X10_lostTo : YV yX10_lostTo := ⟨tsg_in (i := 1648) (by decide +kernel) rfl, tsg_in (i := 79) (by decide +kernel) rfl⟩
theorem yc_X10_placeOf : YC yX10_placeOf cX10_placeOf 2 (some .int) 1 := ⟨tsg_in (i := 107) (by decide +kernel) rfl, tsg_in (i := 1653) (by decide +kernel) rfl, by decide +kernel⟩
theorem yv_X10_placeOf : YV yX10_placeOf := ⟨tsg_in (i := 1651) (by decide +kernel) rfl, tsg_in (i := 1652) (by decide +kernel) rfl⟩
theorem yc_X10_isHouse : YC yX10_isHouse cX10_isHouse 2 (some .boolean) 1 := ⟨tsg_in (i := 107) (by decide +kernel) rfl, tsg_in (i := 1657) (by decide +kernel) rfl, by decide +kernel⟩
theorem yv_X10_isHouse : YV yX10_isHouse := ⟨tsg_in (i := 1656) (by decide +kernel) rfl, tsg_in (i := 80) (by decide +kernel) rfl⟩
theorem yc_X10_heightOf : YC yX10_heightOf cX10_heightOf 2 (some .int) 1 := ⟨tsg_in (i := 107) (by decide +kernel) rfl, tsg_in (i := 1661) (by decide +kernel) rfl, by decide +kernel⟩
theorem yv_X10_heightOf : YV yX10_heightOf := ⟨tsg_in (i := 1659) (by decide +kernel) rfl, tsg_in (i := 1660) (by decide +kernel) rfl⟩
theorem yc_X10_hoursLost : YC yX10_hoursLost cX10_hoursLost 2 (some .int) 1 := ⟨tsg_in (i := 107) (by decide +kernel) rfl, tsg_in (i := 1665) (by decide +kernel) rfl, by decide +kernel⟩
theorem yv_X10_hoursLost : YV yX10_hoursLost := ⟨tsg_in (i := 1663) (by decide +kernel) rfl, tsg_in (i := 1664) (by decide +kernel) rfl⟩
theorem yc_X10_castBy : YC yX10_castBy cX10_castBy 2 (some .int) 1 := ⟨tsg_in (i := 107) (by decide +kernel) rfl, tsg_in (i := 1669) (by decide +kernel) rfl, by decide +kernel⟩
theorem yv_X10_castBy : YV yX10_castBy := ⟨tsg_in (i := 1667) (by decide +kernel) rfl, tsg_in (i := 1668) (by decide +kernel) rfl⟩
theorem yc_X10_hasCurfew : YC yX10_hasCurfew cX10_hasCurfew 2 (some .boolean) 1 := ⟨tsg_in (i := 107) (by decide +kernel) rfl, tsg_in (i := 1673) (by decide +kernel) rfl, by decide +kernel⟩
theorem yv_X10_hasCurfew : YV yX10_hasCurfew := ⟨tsg_in (i := 1671) (by decide +kernel) rfl, tsg_in (i := 1672) (by decide +kernel) rfl⟩
theorem yc_X10_isNot : YC yX10_isNot cX10_isNot 2 (some .boolean) 1 := ⟨tsg_in (i := 107) (by decide +kernel) rfl, tsg_in (i := 1677) (by decide +kernel) rfl, by decide +kernel⟩
theorem yv_X10_isNot : YV yX10_isNot := ⟨tsg_in (i := 1676) (by decide +kernel) rfl, tsg_in (i := 81) (by decide +kernel) rfl⟩
theorem yc_X10_curfewFrom : YC yX10_curfewFrom cX10_curfewFrom 2 (some .int) 1 := ⟨tsg_in (i := 107) (by decide +kernel) rfl, tsg_in (i := 1681) (by decide +kernel) rfl, by decide +kernel⟩
theorem yv_X10_curfewFrom : YV yX10_curfewFrom := ⟨tsg_in (i := 1679) (by decide +kernel) rfl, tsg_in (i := 1680) (by decide +kernel) rfl⟩
theorem yc_X10_ofCurfew : YC yX10_ofCurfew cX10_ofCurfew 3 (some .int) 2 := ⟨tsg_in (i := 107) (by decide +kernel) rfl, tsg_in (i := 1685) (by decide +kernel) rfl, by decide +kernel⟩
theorem yv_X10_ofCurfew : YV yX10_ofCurfew := ⟨tsg_in (i := 1684) (by decide +kernel) rfl, tsg_in (i := 82) (by decide +kernel) rfl⟩
theorem yc_X10_curfewTo : YC yX10_curfewTo cX10_curfewTo 2 (some .int) 1 := ⟨tsg_in (i := 107) (by decide +kernel) rfl, tsg_in (i := 1689) (by decide +kernel) rfl, by decide +kernel⟩
theorem yv_X10_curfewTo : YV yX10_curfewTo := ⟨tsg_in (i := 1687) (by decide +kernel) rfl, tsg_in (i := 1688) (by decide +kernel) rfl⟩
theorem yc_X10_hoursLostTo : YC yX10_hoursLostTo cX10_hoursLostTo 3 (some .int) 2 := ⟨tsg_in (i := 107) (by decide +kernel) rfl, tsg_in (i := 1693) (by decide +kernel) rfl, by decide +kernel⟩
theorem yv_X10_hoursLostTo : YV yX10_hoursLostTo := ⟨tsg_in (i := 1691) (by decide +kernel) rfl, tsg_in (i := 1692) (by decide +kernel) rfl⟩
theorem yc_X10_heightAt : YC yX10_heightAt cX10_heightAt 3 (some .int) 2 := ⟨tsg_in (i := 107) (by decide +kernel) rfl, tsg_in (i := 1697) (by decide +kernel) rfl, by decide +kernel⟩
theorem yv_X10_heightAt : YV yX10_heightAt := ⟨tsg_in (i := 1695) (by decide +kernel) rfl, tsg_in (i := 1696) (by decide +kernel) rfl⟩
theorem yc_X10_isHour : YC yX10_isHour cX10_isHour 1 (some .boolean) 1 := ⟨tsg_in (i := 107) (by decide +kernel) rfl, tsg_in (i := 1700) (by decide +kernel) rfl, by decide +kernel⟩
theorem ys_X10_isHour : YS yX10_isHour := tsg_in (i := 1699) (by decide +kernel) rfl
theorem yc_X10_shadowOf : YC yX10_shadowOf cX10_shadowOf 3 (some .int) 2 := ⟨tsg_in (i := 107) (by decide +kernel) rfl, tsg_in (i := 1704) (by decide +kernel) rfl, by decide +kernel⟩
theorem yv_X10_shadowOf : YV yX10_shadowOf := ⟨tsg_in (i := 1702) (by decide +kernel) rfl, tsg_in (i := 1703) (by decide +kernel) rfl⟩
theorem yc_X10_shades : YC yX10_shades cX10_shades 4 (some .boolean) 3 := ⟨tsg_in (i := 107) (by decide +kernel) rfl, tsg_in (i := 1708) (by decide +kernel) rfl, by decide +kernel⟩
theorem yv_X10_shades : YV yX10_shades := ⟨tsg_in (i := 1706) (by decide +kernel) rfl, tsg_in (i := 1707) (by decide +kernel) rfl⟩
theorem yc_X10_isShade : YC yX10_isShade cX10_isShade 4 (some .boolean) 3 := ⟨tsg_in (i := 107) (by decide +kernel) rfl, tsg_in (i := 1712) (by decide +kernel) rfl, by decide +kernel⟩
theorem yv_X10_isShade : YV yX10_isShade := ⟨tsg_in (i := 1711) (by decide +kernel) rfl, tsg_in (i := 83) (by decide +kernel) rfl⟩
theorem yc_X10_isInTheDark : YC yX10_isInTheDark cX10_isInTheDark 3 (some .boolean) 2 := ⟨tsg_in (i := 107) (by decide +kernel) rfl, tsg_in (i := 1716) (by decide +kernel) rfl, by decide +kernel⟩
theorem yv_X10_isInTheDark : YV yX10_isInTheDark := ⟨tsg_in (i := 1714) (by decide +kernel) rfl, tsg_in (i := 1715) (by decide +kernel) rfl⟩
theorem yc_X10_shadedBy : YC yX10_shadedBy cX10_shadedBy 5 (some .int) 2 := ⟨tsg_in (i := 107) (by decide +kernel) rfl, tsg_in (i := 1720) (by decide +kernel) rfl, by decide +kernel⟩
theorem yv_X10_shadedBy : YV yX10_shadedBy := ⟨tsg_in (i := 1718) (by decide +kernel) rfl, tsg_in (i := 1719) (by decide +kernel) rfl⟩
theorem yc_X10_housesInTheDark : YC yX10_housesInTheDark cX10_housesInTheDark 2 (some .int) 1 := ⟨tsg_in (i := 107) (by decide +kernel) rfl, tsg_in (i := 1724) (by decide +kernel) rfl, by decide +kernel⟩
theorem yv_X10_housesInTheDark : YV yX10_housesInTheDark := ⟨tsg_in (i := 1722) (by decide +kernel) rfl, tsg_in (i := 1723) (by decide +kernel) rfl⟩
theorem yc_X10_inTheDark : YC yX10_inTheDark cX10_inTheDark 4 (some .int) 1 := ⟨tsg_in (i := 107) (by decide +kernel) rfl, tsg_in (i := 1728) (by decide +kernel) rfl, by decide +kernel⟩
theorem yv_X10_inTheDark : YV yX10_inTheDark := ⟨tsg_in (i := 1727) (by decide +kernel) rfl, tsg_in (i := 84) (by decide +kernel) rfl⟩
theorem yc_X10_setCurfew : YC yX10_setCurfew cX10_setCurfew 4 (some .int) 3 := ⟨tsg_in (i := 107) (by decide +kernel) rfl, tsg_in (i := 1732) (by decide +kernel) rfl, by decide +kernel⟩
theorem yv_X10_setCurfew : YV yX10_setCurfew := ⟨tsg_in (i := 1730) (by decide +kernel) rfl, tsg_in (i := 1731) (by decide +kernel) rfl⟩
theorem yc_X10_endCurfew : YC yX10_endCurfew cX10_endCurfew 2 (some .int) 1 := ⟨tsg_in (i := 107) (by decide +kernel) rfl, tsg_in (i := 1736) (by decide +kernel) rfl, by decide +kernel⟩
theorem yv_X10_endCurfew : YV yX10_endCurfew := ⟨tsg_in (i := 1734) (by decide +kernel) rfl, tsg_in (i := 1735) (by decide +kernel) rfl⟩
theorem yc_X10_isOpened : YC yX10_isOpened cX10_isOpened 2 (some .boolean) 1 := ⟨tsg_in (i := 107) (by decide +kernel) rfl, tsg_in (i := 1740) (by decide +kernel) rfl, by decide +kernel⟩
theorem yv_X10_isOpened : YV yX10_isOpened := ⟨tsg_in (i := 1739) (by decide +kernel) rfl, tsg_in (i := 85) (by decide +kernel) rfl⟩
theorem yc_X10_build : YC yX10_build cX10_build 4 (some .int) 2 := ⟨tsg_in (i := 107) (by decide +kernel) rfl, tsg_in (i := 1744) (by decide +kernel) rfl, by decide +kernel⟩
theorem yv_X10_build : YV yX10_build := ⟨tsg_in (i := 1742) (by decide +kernel) rfl, tsg_in (i := 1743) (by decide +kernel) rfl⟩
theorem yc_X10_move : YC yX10_move cX10_move 4 (some .int) 2 := ⟨tsg_in (i := 107) (by decide +kernel) rfl, tsg_in (i := 1748) (by decide +kernel) rfl, by decide +kernel⟩
theorem yv_X10_move : YV yX10_move := ⟨tsg_in (i := 1746) (by decide +kernel) rfl, tsg_in (i := 1747) (by decide +kernel) rfl⟩
theorem yc_X10_passDays : YC yX10_passDays cX10_passDays 2 (some .int) 1 := ⟨tsg_in (i := 107) (by decide +kernel) rfl, tsg_in (i := 1752) (by decide +kernel) rfl, by decide +kernel⟩
theorem yv_X10_passDays : YV yX10_passDays := ⟨tsg_in (i := 1750) (by decide +kernel) rfl, tsg_in (i := 1751) (by decide +kernel) rfl⟩
theorem yc_X10_pass : YC yX10_pass cX10_pass 5 (some .int) 1 := ⟨tsg_in (i := 107) (by decide +kernel) rfl, tsg_in (i := 1756) (by decide +kernel) rfl, by decide +kernel⟩
theorem yv_X10_pass : YV yX10_pass := ⟨tsg_in (i := 1755) (by decide +kernel) rfl, tsg_in (i := 86) (by decide +kernel) rfl⟩
theorem yc_X10_isCarriedOut : YC yX10_isCarriedOut cX10_isCarriedOut 2 (some .boolean) 1 := ⟨tsg_in (i := 107) (by decide +kernel) rfl, tsg_in (i := 1760) (by decide +kernel) rfl, by decide +kernel⟩
theorem yv_X10_isCarriedOut : YV yX10_isCarriedOut := ⟨tsg_in (i := 1759) (by decide +kernel) rfl, tsg_in (i := 87) (by decide +kernel) rfl⟩
theorem yc_X10_holds : YC yX10_holds cX10_holds 2 (some .boolean) 1 := ⟨tsg_in (i := 107) (by decide +kernel) rfl, tsg_in (i := 1764) (by decide +kernel) rfl, by decide +kernel⟩
theorem yv_X10_holds : YV yX10_holds := ⟨tsg_in (i := 1763) (by decide +kernel) rfl, tsg_in (i := 88) (by decide +kernel) rfl⟩
theorem yc_X10_sum : YC yX10_sum cX10_sum 6 (some .int) 2 := ⟨tsg_in (i := 107) (by decide +kernel) rfl, tsg_in (i := 1768) (by decide +kernel) rfl, by decide +kernel⟩
theorem yv_X10_sum : YV yX10_sum := ⟨tsg_in (i := 1767) (by decide +kernel) rfl, tsg_in (i := 89) (by decide +kernel) rfl⟩
theorem yc_X10_isAsked : YC yX10_isAsked cX10_isAsked 1 (some .boolean) 1 := ⟨tsg_in (i := 107) (by decide +kernel) rfl, tsg_in (i := 1771) (by decide +kernel) rfl, by decide +kernel⟩
theorem ys_X10_isAsked : YS yX10_isAsked := tsg_in (i := 1770) (by decide +kernel) rfl
theorem yc_X10_ask : YC yX10_ask cX10_ask 4 (some .int) 3 := ⟨tsg_in (i := 107) (by decide +kernel) rfl, tsg_in (i := 1775) (by decide +kernel) rfl, by decide +kernel⟩
theorem yv_X10_ask : YV yX10_ask := ⟨tsg_in (i := 1774) (by decide +kernel) rfl, tsg_in (i := 90) (by decide +kernel) rfl⟩
theorem yc_X10_reckon : YC yX10_reckon cX10_reckon 3 (some .int) 3 := ⟨tsg_in (i := 107) (by decide +kernel) rfl, tsg_in (i := 1778) (by decide +kernel) rfl, by decide +kernel⟩
theorem ys_X10_reckon : YS yX10_reckon := tsg_in (i := 1777) (by decide +kernel) rfl
theorem yc_X10_isCurfewSet : YC yX10_isCurfewSet cX10_isCurfewSet 5 (some .boolean) 1 := ⟨tsg_in (i := 107) (by decide +kernel) rfl, tsg_in (i := 1783) (by decide +kernel) rfl, by decide +kernel⟩
theorem yv_X10_isCurfewSet : YV yX10_isCurfewSet := ⟨tsg_in (i := 1782) (by decide +kernel) rfl, tsg_in (i := 91) (by decide +kernel) rfl⟩
theorem yc_X10_held : YC yX10_held cX10_held 1 (some .int) 1 := ⟨tsg_in (i := 107) (by decide +kernel) rfl, tsg_in (i := 1786) (by decide +kernel) rfl, by decide +kernel⟩
theorem ys_X10_held : YS yX10_held := tsg_in (i := 1785) (by decide +kernel) rfl
theorem yc_X10_isRaised : YC yX10_isRaised cX10_isRaised 4 (some .boolean) 1 := ⟨tsg_in (i := 107) (by decide +kernel) rfl, tsg_in (i := 1790) (by decide +kernel) rfl, by decide +kernel⟩
theorem yv_X10_isRaised : YV yX10_isRaised := ⟨tsg_in (i := 1789) (by decide +kernel) rfl, tsg_in (i := 92) (by decide +kernel) rfl⟩
theorem yc_X10_lostAfter : YC yX10_lostAfter cX10_lostAfter 5 (some .int) 1 := ⟨tsg_in (i := 107) (by decide +kernel) rfl, tsg_in (i := 1796) (by decide +kernel) rfl, by decide +kernel⟩
theorem yv_X10_lostAfter : YV yX10_lostAfter := ⟨tsg_in (i := 1794) (by decide +kernel) rfl, tsg_in (i := 1795) (by decide +kernel) rfl⟩
theorem yc_X10_keep : YC yX10_keep cX10_keep 1 none 0 := ⟨tsg_in (i := 107) (by decide +kernel) rfl, tsg_in (i := 1800) (by decide +kernel) rfl, by decide +kernel⟩
theorem yv_X10_keep : YV yX10_keep := ⟨tsg_in (i := 1799) (by decide +kernel) rfl, tsg_in (i := 93) (by decide +kernel) rfl⟩
theorem yc_X10_bringBack : YC yX10_bringBack cX10_bringBack 3 none 2 := ⟨tsg_in (i := 107) (by decide +kernel) rfl, tsg_in (i := 1805) (by decide +kernel) rfl, by decide +kernel⟩
theorem yv_X10_bringBack : YV yX10_bringBack := ⟨tsg_in (i := 1804) (by decide +kernel) rfl, tsg_in (i := 94) (by decide +kernel) rfl⟩
theorem yc_X10_daysUntilLight : YC yX10_daysUntilLight cX10_daysUntilLight 4 (some .int) 0 := ⟨tsg_in (i := 107) (by decide +kernel) rfl, tsg_in (i := 1809) (by decide +kernel) rfl, by decide +kernel⟩
theorem yv_X10_daysUntilLight : YV yX10_daysUntilLight := ⟨tsg_in (i := 1807) (by decide +kernel) rfl, tsg_in (i := 1808) (by decide +kernel) rfl⟩
theorem yc_X10_fairCurfew : YC yX10_fairCurfew cX10_fairCurfew 3 (some .int) 2 := ⟨tsg_in (i := 107) (by decide +kernel) rfl, tsg_in (i := 1813) (by decide +kernel) rfl, by decide +kernel⟩
theorem yv_X10_fairCurfew : YV yX10_fairCurfew := ⟨tsg_in (i := 1811) (by decide +kernel) rfl, tsg_in (i := 1812) (by decide +kernel) rfl⟩
theorem yc_X10_fairest : YC yX10_fairest cX10_fairest 10 (some .int) 3 := ⟨tsg_in (i := 107) (by decide +kernel) rfl, tsg_in (i := 1817) (by decide +kernel) rfl, by decide +kernel⟩
theorem yv_X10_fairest : YV yX10_fairest := ⟨tsg_in (i := 1816) (by decide +kernel) rfl, tsg_in (i := 95) (by decide +kernel) rfl⟩
theorem yc_X10_fairestWall : YC yX10_fairestWall cX10_fairestWall 6 (some .int) 1 := ⟨tsg_in (i := 107) (by decide +kernel) rfl, tsg_in (i := 1821) (by decide +kernel) rfl, by decide +kernel⟩
theorem yv_X10_fairestWall : YV yX10_fairestWall := ⟨tsg_in (i := 1819) (by decide +kernel) rfl, tsg_in (i := 1820) (by decide +kernel) rfl⟩
theorem yc_X10_meanLost : YC yX10_meanLost cX10_meanLost 1 (some .double) 0 := ⟨tsg_in (i := 107) (by decide +kernel) rfl, tsg_in (i := 1825) (by decide +kernel) rfl, by decide +kernel⟩
theorem yv_X10_meanLost : YV yX10_meanLost := ⟨tsg_in (i := 1823) (by decide +kernel) rfl, tsg_in (i := 1824) (by decide +kernel) rfl⟩
theorem yc_X10_digest : YC yX10_digest cX10_digest 8 (some .long) 0 := ⟨tsg_in (i := 107) (by decide +kernel) rfl, tsg_in (i := 1829) (by decide +kernel) rfl, by decide +kernel⟩
theorem yv_X10_digest : YV yX10_digest := ⟨tsg_in (i := 1827) (by decide +kernel) rfl, tsg_in (i := 1828) (by decide +kernel) rfl⟩
theorem lm_L_101 : LkM RL 101 yX8_init := tsg_in (i := 124) (by decide +kernel) rfl
theorem ln_X8_11 : LkN RX8 11 yX6_init := ⟨"ShadowRegistry", nws_in (i := 132) (by decide +kernel) rfl⟩
theorem lm_X8_18 : LkM RX8 18 yX0_init := tsg_in (i := 148) (by decide +kernel) rfl
theorem ln_X0_37 : LkN RX0 37 yX2_init := ⟨"ShadowRegistry", nws_in (i := 155) (by decide +kernel) rfl⟩
theorem lm_X8_27 : LkM RX8 27 yX7_init := tsg_in (i := 238) (by decide +kernel) rfl
theorem lm_X8_30 : LkM RX8 30 yX3_init := tsg_in (i := 260) (by decide +kernel) rfl
theorem ln_X3_11 : LkN RX3 11 yX2_init := ⟨"ShadowRegistry", nws_in (i := 265) (by decide +kernel) rfl⟩
theorem lm_X8_42 : LkM RX8 42 yX4_init := tsg_in (i := 299) (by decide +kernel) rfl
theorem ln_X8_51 : LkN RX8 51 yX5_init := ⟨"ShadowRegistry", nws_in (i := 315) (by decide +kernel) rfl⟩
theorem lm_L_118 : LkM RL 118 yX8_teach := tsg_in (i := 384) (by decide +kernel) rfl
theorem lm_X8_82 : LkM RX8 82 yX3_read := tsg_in (i := 388) (by decide +kernel) rfl
theorem lm_X3_35 : LkM RX3 35 yX7_scan := tsg_in (i := 392) (by decide +kernel) rfl
theorem lm_X7_33 : LkM RX7 33 yX7_behindBlanks := tsg_in (i := 396) (by decide +kernel) rfl
theorem lm_X7_49 : LkM RX7 49 yX6_signAt := tsg_in (i := 400) (by decide +kernel) rfl
theorem lm_X7_37 : LkM RX7 37 yX7_scanToken := tsg_in (i := 404) (by decide +kernel) rfl
theorem lm_X7_52 : LkM RX7 52 yX7_put := tsg_in (i := 410) (by decide +kernel) rfl
theorem lm_X7_59 : LkM RX7 59 yX7_isLetter := tsg_in (i := 415) (by decide +kernel) rfl
theorem lm_X7_63 : LkM RX7 63 yX7_scanWord := tsg_in (i := 418) (by decide +kernel) rfl
theorem lm_X7_66 : LkM RX7 66 yX7_isDigit := tsg_in (i := 422) (by decide +kernel) rfl
theorem lm_X7_76 : LkM RX7 76 yX1_lengthened := tsg_in (i := 425) (by decide +kernel) rfl
theorem lm_X7_69 : LkM RX7 69 yX7_scanNumber := tsg_in (i := 433) (by decide +kernel) rfl
theorem lm_X7_72 : LkM RX7 72 yX7_scanSymbol := tsg_in (i := 440) (by decide +kernel) rfl
theorem lm_X7_101 : LkM RX7 101 yX7_symbol := tsg_in (i := 448) (by decide +kernel) rfl
theorem lm_X3_40 : LkM RX3 40 yX0_empty := tsg_in (i := 477) (by decide +kernel) rfl
theorem lm_X3_53 : LkM RX3 53 yX7_startAt := tsg_in (i := 481) (by decide +kernel) rfl
theorem lm_X3_60 : LkM RX3 60 yX7_kindAt := tsg_in (i := 485) (by decide +kernel) rfl
theorem lm_X3_76 : LkM RX3 76 yX3_houseLine := tsg_in (i := 492) (by decide +kernel) rfl
theorem lm_X3_85 : LkM RX3 85 yX3_take := tsg_in (i := 496) (by decide +kernel) rfl
theorem lm_X3_228 : LkM RX3 228 yX3_fail := tsg_in (i := 500) (by decide +kernel) rfl
theorem lm_X3_300 : LkM RX3 300 yX7_valueAt := tsg_in (i := 504) (by decide +kernel) rfl
theorem lm_X3_92 : LkM RX3 92 yX0_houseNamed := tsg_in (i := 509) (by decide +kernel) rfl
theorem lm_X3_96 : LkM RX3 96 yX3_tell := tsg_in (i := 513) (by decide +kernel) rfl
theorem lm_X3_111 : LkM RX3 111 yX0_isTaken := tsg_in (i := 521) (by decide +kernel) rfl
theorem lm_X3_120 : LkM RX3 120 yX0_addHouse := tsg_in (i := 528) (by decide +kernel) rfl
theorem lm_X3_79 : LkM RX3 79 yX3_lawLine := tsg_in (i := 532) (by decide +kernel) rfl
theorem lm_X3_130 : LkM RX3 130 yX3_order := tsg_in (i := 538) (by decide +kernel) rfl
theorem lm_X3_164 : LkM RX3 164 yX3_knownHouse := tsg_in (i := 544) (by decide +kernel) rfl
theorem lm_X3_174 : LkM RX3 174 yX3_sum := tsg_in (i := 550) (by decide +kernel) rfl
theorem lm_X3_246 : LkM RX3 246 yX3_product := tsg_in (i := 554) (by decide +kernel) rfl
theorem lm_X3_255 : LkM RX3 255 yX3_value := tsg_in (i := 558) (by decide +kernel) rfl
theorem lm_X3_195 : LkM RX3 195 yX0_addStep := tsg_in (i := 562) (by decide +kernel) rfl
theorem lm_X3_208 : LkM RX3 208 yX3_goesDeeper := tsg_in (i := 579) (by decide +kernel) rfl
theorem lm_X3_294 : LkM RX3 294 yX3_choice := tsg_in (i := 589) (by decide +kernel) rfl
theorem lm_X3_142 : LkM RX3 142 yX3_test := tsg_in (i := 607) (by decide +kernel) rfl
theorem lm_X3_189 : LkM RX3 189 yX3_both := tsg_in (i := 611) (by decide +kernel) rfl
theorem lm_X3_199 : LkM RX3 199 yX3_single := tsg_in (i := 615) (by decide +kernel) rfl
theorem lm_X3_224 : LkM RX3 224 yX3_comparisonOp := tsg_in (i := 627) (by decide +kernel) rfl
theorem lm_X3_149 : LkM RX3 149 yX0_addLaw := tsg_in (i := 639) (by decide +kernel) rfl
theorem lm_X0_67 : LkM RX0 67 yX2_become := tsg_in (i := 643) (by decide +kernel) rfl
theorem lm_X8_89 : LkM RX8 89 yX0_become := tsg_in (i := 648) (by decide +kernel) rfl
theorem lm_X0_48 : LkM RX0 48 yX0_empty := tsg_in (i := 652) (by decide +kernel) rfl
theorem lm_X0_51 : LkM RX0 51 yX0_addHouse := tsg_in (i := 653) (by decide +kernel) rfl
theorem lm_X0_55 : LkM RX0 55 yX0_addStep := tsg_in (i := 654) (by decide +kernel) rfl
theorem lm_X0_59 : LkM RX0 59 yX0_lawAt := tsg_in (i := 655) (by decide +kernel) rfl
theorem lm_X0_63 : LkM RX0 63 yX0_addLaw := tsg_in (i := 659) (by decide +kernel) rfl
theorem lm_X8_92 : LkM RX8 92 yX5_beginWith := tsg_in (i := 660) (by decide +kernel) rfl
theorem ln_X5_39 : LkN RX5 39 yX8_held := ⟨"ShadowRegistry", nws_in (i := 664) (by decide +kernel) rfl⟩
theorem lm_X8_242 : LkM RX8 242 yJ9_min_f86c9 := tsg_in (i := 667) (by decide +kernel) rfl
theorem lm_X8_246 : LkM RX8 246 yJ9_max_f86c9 := tsg_in (i := 670) (by decide +kernel) rfl
theorem lm_X5_54 : LkM RX5 54 yX5_findHoursShaded := tsg_in (i := 673) (by decide +kernel) rfl
theorem lm_X5_98 : LkM RX5 98 yX5_place := tsg_in (i := 677) (by decide +kernel) rfl
theorem lm_X5_70 : LkM RX5 70 yX5_has := tsg_in (i := 681) (by decide +kernel) rfl
theorem lm_X5_74 : LkM RX5 74 yJ9_abs_0f7a4 := tsg_in (i := 685) (by decide +kernel) rfl
theorem lm_X5_80 : LkM RX5 80 yX5_wallAt := tsg_in (i := 688) (by decide +kernel) rfl
theorem lm_X5_58 : LkM RX5 58 yX5_addUp := tsg_in (i := 692) (by decide +kernel) rfl
theorem lm_X5_101 : LkM RX5 101 yX5_hoursShaded := tsg_in (i := 696) (by decide +kernel) rfl
theorem lm_X5_86 : LkM RX5 86 yJ6_bitCount_0f7a4 := tsg_in (i := 700) (by decide +kernel) rfl
theorem lm_L_122 : LkM RL 122 yX8_errorAt := tsg_in (i := 706) (by decide +kernel) rfl
theorem lm_L_126 : LkM RL 126 yX8_houses := tsg_in (i := 710) (by decide +kernel) rfl
theorem lm_L_130 : LkM RL 130 yX8_laws := tsg_in (i := 714) (by decide +kernel) rfl
theorem lm_L_134 : LkM RL 134 yX8_days := tsg_in (i := 718) (by decide +kernel) rfl
theorem lm_L_138 : LkM RL 138 yX8_lawsCarriedOut := tsg_in (i := 722) (by decide +kernel) rfl
theorem lm_L_142 : LkM RL 142 yX8_allHoursLost := tsg_in (i := 726) (by decide +kernel) rfl
theorem lm_L_146 : LkM RL 146 yX8_lightHouses := tsg_in (i := 730) (by decide +kernel) rfl
theorem lm_X8_110 : LkM RX8 110 yX5_lost := tsg_in (i := 734) (by decide +kernel) rfl
theorem lm_X5_83 : LkM RX5 83 yX5_hoursDark := tsg_in (i := 738) (by decide +kernel) rfl
theorem lm_L_219 : LkM RL 219 yX8_daysUntilLight := tsg_in (i := 742) (by decide +kernel) rfl
theorem lm_X8_198 : LkM RX8 198 yX5_become := tsg_in (i := 746) (by decide +kernel) rfl
theorem lm_X8_194 : LkM RX8 194 yX4_passDay := tsg_in (i := 753) (by decide +kernel) rfl
theorem lm_X4_25 : LkM RX4 25 yX0_lawAt := tsg_in (i := 757) (by decide +kernel) rfl
theorem lm_X4_29 : LkM RX4 29 yX4_carryOut := tsg_in (i := 758) (by decide +kernel) rfl
theorem lm_X4_49 : LkM RX4 49 yX4_reckon := tsg_in (i := 762) (by decide +kernel) rfl
theorem lm_X4_84 : LkM RX4 84 yJ9_max_7cf53 := tsg_in (i := 766) (by decide +kernel) rfl
theorem lm_X4_99 : LkM RX4 99 yX4_leaf := tsg_in (i := 769) (by decide +kernel) rfl
theorem lm_X4_122 : LkM RX4 122 yX5_mostLost := tsg_in (i := 772) (by decide +kernel) rfl
theorem lm_X5_91 : LkM RX5 91 yJ9_max_7cf53 := tsg_in (i := 776) (by decide +kernel) rfl
theorem lm_X4_125 : LkM RX4 125 yX5_lost := tsg_in (i := 777) (by decide +kernel) rfl
theorem lm_X4_128 : LkM RX4 128 yX5_cast := tsg_in (i := 778) (by decide +kernel) rfl
theorem lm_X4_69 : LkM RX4 69 yX5_height := tsg_in (i := 782) (by decide +kernel) rfl
theorem lm_X4_131 : LkM RX4 131 yX5_hoursShaded := tsg_in (i := 786) (by decide +kernel) rfl
theorem lm_X4_118 : LkM RX4 118 yX4_truth := tsg_in (i := 787) (by decide +kernel) rfl
theorem lm_X4_103 : LkM RX4 103 yX4_push := tsg_in (i := 790) (by decide +kernel) rfl
theorem lm_X4_107 : LkM RX4 107 yX4_pop := tsg_in (i := 794) (by decide +kernel) rfl
theorem lm_X4_111 : LkM RX4 111 yX4_sumOf := tsg_in (i := 798) (by decide +kernel) rfl
theorem lm_X4_134 : LkM RX4 134 yJ9_min_7cf53 := tsg_in (i := 801) (by decide +kernel) rfl
theorem lm_X4_115 : LkM RX4 115 yX4_testOf := tsg_in (i := 804) (by decide +kernel) rfl
theorem lm_X4_59 : LkM RX4 59 yX5_giveCurfew := tsg_in (i := 807) (by decide +kernel) rfl
theorem lm_X5_94 : LkM RX5 94 yX5_renew := tsg_in (i := 811) (by decide +kernel) rfl
theorem ln_X4_73 : LkN RX4 73 yX8_held := ⟨"ShadowRegistry", nws_in (i := 815) (by decide +kernel) rfl⟩
theorem lm_X4_77 : LkM RX4 77 yX5_giveHeight := tsg_in (i := 816) (by decide +kernel) rfl
theorem lm_L_229 : LkM RL 229 yX8_meanLost := tsg_in (i := 820) (by decide +kernel) rfl
theorem lm_L_234 : LkM RL 234 yX8_digest := tsg_in (i := 824) (by decide +kernel) rfl
theorem lm_X8_207 : LkM RX8 207 yX8_houses := tsg_in (i := 830) (by decide +kernel) rfl
theorem lm_X8_210 : LkM RX8 210 yX8_laws := tsg_in (i := 831) (by decide +kernel) rfl
theorem lm_X8_213 : LkM RX8 213 yX8_days := tsg_in (i := 832) (by decide +kernel) rfl
theorem lm_X8_216 : LkM RX8 216 yX8_lawsCarriedOut := tsg_in (i := 833) (by decide +kernel) rfl
theorem lm_X8_219 : LkM RX8 219 yX8_allHoursLost := tsg_in (i := 834) (by decide +kernel) rfl
theorem lm_X8_222 : LkM RX8 222 yX8_lightHouses := tsg_in (i := 835) (by decide +kernel) rfl
theorem lm_X8_122 : LkM RX8 122 yX5_place := tsg_in (i := 836) (by decide +kernel) rfl
theorem lm_X8_125 : LkM RX8 125 yX5_height := tsg_in (i := 837) (by decide +kernel) rfl
theorem lm_X8_128 : LkM RX8 128 yX5_firstLow := tsg_in (i := 838) (by decide +kernel) rfl
theorem lm_X8_134 : LkM RX8 134 yX5_lastLow := tsg_in (i := 842) (by decide +kernel) rfl
theorem lm_X8_116 : LkM RX8 116 yX5_cast := tsg_in (i := 846) (by decide +kernel) rfl
theorem lm_X8_137 : LkM RX8 137 yX5_hoursShaded := tsg_in (i := 847) (by decide +kernel) rfl
theorem lm_X8_141 : LkM RX8 141 yJ6_bitCount_0f7a4 := tsg_in (i := 848) (by decide +kernel) rfl
theorem lm_X8_169 : LkM RX8 169 yX8_countDark := tsg_in (i := 849) (by decide +kernel) rfl
theorem lm_X8_159 : LkM RX8 159 yX5_hoursDark := tsg_in (i := 853) (by decide +kernel) rfl
theorem lm_X8_155 : LkM RX8 155 yX8_holdsHour := tsg_in (i := 854) (by decide +kernel) rfl
theorem lm_L_105 : LkM RL 105 yL_feed := tsg_in (i := 857) (by decide +kernel) rfl
theorem lm_L_7 : LkM RL 7 yX8_feed := tsg_in (i := 861) (by decide +kernel) rfl
theorem lm_X8_73 : LkM RX8 73 yX6_append := tsg_in (i := 932) (by decide +kernel) rfl
theorem lm_L_114 : LkM RL 114 yL_trim := tsg_in (i := 936) (by decide +kernel) rfl
theorem lm_L_15 : LkM RL 15 yX8_trim := tsg_in (i := 940) (by decide +kernel) rfl
theorem lm_L_150 : LkM RL 150 yL_worstHouse := tsg_in (i := 960) (by decide +kernel) rfl
theorem lm_L_21 : LkM RL 21 yX8_worstHouse := tsg_in (i := 963) (by decide +kernel) rfl
theorem lm_L_154 : LkM RL 154 yL_darkestWall := tsg_in (i := 968) (by decide +kernel) rfl
theorem lm_L_25 : LkM RL 25 yX8_darkestWall := tsg_in (i := 971) (by decide +kernel) rfl
theorem lm_L_157 : LkM RL 157 yL_placeOf := tsg_in (i := 975) (by decide +kernel) rfl
theorem lm_L_28 : LkM RL 28 yX8_placeOf := tsg_in (i := 979) (by decide +kernel) rfl
theorem lm_X8_119 : LkM RX8 119 yX8_checkHouse := tsg_in (i := 983) (by decide +kernel) rfl
theorem lm_X8_225 : LkM RX8 225 yX5_has := tsg_in (i := 987) (by decide +kernel) rfl
theorem lm_L_160 : LkM RL 160 yL_heightOf := tsg_in (i := 1004) (by decide +kernel) rfl
theorem lm_L_33 : LkM RL 33 yX8_heightOf := tsg_in (i := 1007) (by decide +kernel) rfl
theorem lm_L_163 : LkM RL 163 yL_hoursLost := tsg_in (i := 1011) (by decide +kernel) rfl
theorem lm_L_36 : LkM RL 36 yX8_hoursLost := tsg_in (i := 1014) (by decide +kernel) rfl
theorem lm_L_166 : LkM RL 166 yL_castBy := tsg_in (i := 1018) (by decide +kernel) rfl
theorem lm_L_39 : LkM RL 39 yX8_castBy := tsg_in (i := 1021) (by decide +kernel) rfl
theorem lm_L_169 : LkM RL 169 yL_hasCurfew := tsg_in (i := 1025) (by decide +kernel) rfl
theorem lm_L_42 : LkM RL 42 yX8_hasCurfew := tsg_in (i := 1028) (by decide +kernel) rfl
theorem lm_L_172 : LkM RL 172 yL_curfewFrom := tsg_in (i := 1032) (by decide +kernel) rfl
theorem lm_L_46 : LkM RL 46 yX8_curfewFrom := tsg_in (i := 1035) (by decide +kernel) rfl
theorem lm_X8_131 : LkM RX8 131 yX8_checkCurfew := tsg_in (i := 1039) (by decide +kernel) rfl
theorem lm_L_175 : LkM RL 175 yL_curfewTo := tsg_in (i := 1044) (by decide +kernel) rfl
theorem lm_L_49 : LkM RL 49 yX8_curfewTo := tsg_in (i := 1047) (by decide +kernel) rfl
theorem lm_L_178 : LkM RL 178 yL_hoursLostTo := tsg_in (i := 1051) (by decide +kernel) rfl
theorem lm_L_52 : LkM RL 52 yX8_hoursLostTo := tsg_in (i := 1054) (by decide +kernel) rfl
theorem lm_L_182 : LkM RL 182 yL_heightAt := tsg_in (i := 1058) (by decide +kernel) rfl
theorem lm_L_56 : LkM RL 56 yX8_heightAt := tsg_in (i := 1061) (by decide +kernel) rfl
theorem lm_X8_146 : LkM RX8 146 yX8_checkHour := tsg_in (i := 1065) (by decide +kernel) rfl
theorem lm_X8_149 : LkM RX8 149 yX5_wallAt := tsg_in (i := 1069) (by decide +kernel) rfl
theorem lm_L_185 : LkM RL 185 yL_shadowOf := tsg_in (i := 1070) (by decide +kernel) rfl
theorem lm_L_59 : LkM RL 59 yX8_shadowOf := tsg_in (i := 1073) (by decide +kernel) rfl
theorem lm_X8_152 : LkM RX8 152 yX5_reach := tsg_in (i := 1077) (by decide +kernel) rfl
theorem lm_L_188 : LkM RL 188 yL_shades := tsg_in (i := 1081) (by decide +kernel) rfl
theorem lm_L_62 : LkM RL 62 yX8_shades := tsg_in (i := 1084) (by decide +kernel) rfl
theorem lm_L_192 : LkM RL 192 yL_isInTheDark := tsg_in (i := 1088) (by decide +kernel) rfl
theorem lm_L_66 : LkM RL 66 yX8_isInTheDark := tsg_in (i := 1091) (by decide +kernel) rfl
theorem lm_L_195 : LkM RL 195 yL_shadedBy := tsg_in (i := 1095) (by decide +kernel) rfl
theorem lm_L_70 : LkM RL 70 yX8_shadedBy := tsg_in (i := 1098) (by decide +kernel) rfl
theorem lm_X8_164 : LkM RX8 164 yJ9_abs_0f7a4 := tsg_in (i := 1103) (by decide +kernel) rfl
theorem lm_L_198 : LkM RL 198 yL_housesInTheDark := tsg_in (i := 1104) (by decide +kernel) rfl
theorem lm_L_73 : LkM RL 73 yX8_housesInTheDark := tsg_in (i := 1107) (by decide +kernel) rfl
theorem lm_L_201 : LkM RL 201 yL_setCurfew := tsg_in (i := 1111) (by decide +kernel) rfl
theorem lm_L_76 : LkM RL 76 yX8_setCurfew := tsg_in (i := 1114) (by decide +kernel) rfl
theorem lm_X8_174 : LkM RX8 174 yX5_giveCurfew := tsg_in (i := 1119) (by decide +kernel) rfl
theorem lm_L_204 : LkM RL 204 yL_endCurfew := tsg_in (i := 1120) (by decide +kernel) rfl
theorem lm_L_80 : LkM RL 80 yX8_endCurfew := tsg_in (i := 1123) (by decide +kernel) rfl
theorem lm_L_207 : LkM RL 207 yL_build := tsg_in (i := 1127) (by decide +kernel) rfl
theorem lm_L_83 : LkM RL 83 yX8_build := tsg_in (i := 1130) (by decide +kernel) rfl
theorem lm_X8_180 : LkM RX8 180 yX5_giveHeight := tsg_in (i := 1135) (by decide +kernel) rfl
theorem lm_L_210 : LkM RL 210 yL_move := tsg_in (i := 1136) (by decide +kernel) rfl
theorem lm_L_86 : LkM RL 86 yX8_move := tsg_in (i := 1139) (by decide +kernel) rfl
theorem lm_X8_187 : LkM RX8 187 yX5_givePlace := tsg_in (i := 1145) (by decide +kernel) rfl
theorem lm_L_213 : LkM RL 213 yL_passDays := tsg_in (i := 1149) (by decide +kernel) rfl
theorem lm_L_89 : LkM RL 89 yX8_passDays := tsg_in (i := 1152) (by decide +kernel) rfl
theorem lm_X8_191 : LkM RX8 191 yX8_checkDays := tsg_in (i := 1156) (by decide +kernel) rfl
theorem lm_L_216 : LkM RL 216 yL_lostAfter := tsg_in (i := 1160) (by decide +kernel) rfl
theorem lm_L_92 : LkM RL 92 yX8_lostAfter := tsg_in (i := 1163) (by decide +kernel) rfl
theorem lm_L_223 : LkM RL 223 yL_fairCurfew := tsg_in (i := 1167) (by decide +kernel) rfl
theorem lm_L_95 : LkM RL 95 yX8_fairCurfew := tsg_in (i := 1170) (by decide +kernel) rfl
theorem lm_X8_200 : LkM RX8 200 yX8_checkCurfewHours := tsg_in (i := 1174) (by decide +kernel) rfl
theorem lm_L_226 : LkM RL 226 yL_fairestWall := tsg_in (i := 1178) (by decide +kernel) rfl
theorem lm_L_98 : LkM RL 98 yX8_fairestWall := tsg_in (i := 1181) (by decide +kernel) rfl
theorem lm_L_104 : LkM RL 104 yX10_init := tsg_in (i := 1187) (by decide +kernel) rfl
theorem ln_X10_19 : LkN RX10 19 yX9_init := ⟨"ShadowRegistryModel", nws_in (i := 1193) (by decide +kernel) rfl⟩
theorem lm_L_111 : LkM RL 111 yX10_thrown := tsg_in (i := 1326) (by decide +kernel) rfl
theorem lm_L_110 : LkM RL 110 yX10_feed := tsg_in (i := 1330) (by decide +kernel) rfl
theorem lm_X10_380 : LkM RX10 380 yX10_no := tsg_in (i := 1334) (by decide +kernel) rfl
theorem lm_L_117 : LkM RL 117 yX10_trim := tsg_in (i := 1338) (by decide +kernel) rfl
theorem lm_X10_76 : LkM RX10 76 yX10_isIn := tsg_in (i := 1342) (by decide +kernel) rfl
theorem lm_L_121 : LkM RL 121 yX10_teach := tsg_in (i := 1345) (by decide +kernel) rfl
theorem lm_X10_383 : LkM RX10 383 yX10_read := tsg_in (i := 1349) (by decide +kernel) rfl
theorem lm_X10_367 : LkM RX10 367 yX10_cutIntoTokens := tsg_in (i := 1353) (by decide +kernel) rfl
theorem lm_X10_220 : LkM RX10 220 yX10_byteOf := tsg_in (i := 1357) (by decide +kernel) rfl
theorem lm_X10_257 : LkM RX10 257 yX10_endOf := tsg_in (i := 1361) (by decide +kernel) rfl
theorem lm_X10_223 : LkM RX10 223 yX10_isSmall := tsg_in (i := 1365) (by decide +kernel) rfl
theorem lm_X10_226 : LkM RX10 226 yX10_isDigit := tsg_in (i := 1368) (by decide +kernel) rfl
theorem lm_X10_260 : LkM RX10 260 yX10_kindOf := tsg_in (i := 1371) (by decide +kernel) rfl
theorem lm_X10_229 : LkM RX10 229 yX10_numberAt := tsg_in (i := 1375) (by decide +kernel) rfl
theorem lm_X10_232 : LkM RX10 232 yX10_wordAt := tsg_in (i := 1379) (by decide +kernel) rfl
theorem lm_X10_246 : LkM RX10 246 yX10_letter := tsg_in (i := 1384) (by decide +kernel) rfl
theorem lm_X10_253 : LkM RX10 253 yX10_nameOf := tsg_in (i := 1389) (by decide +kernel) rfl
theorem lm_X10_235 : LkM RX10 235 yJ0_length_8abf5 := tsg_in (i := 1392) (by decide +kernel) rfl
theorem lm_J0_335 : LkM RJ0 335 yJ0_coder_7d493 := tsg_in (i := 1396) (by decide +kernel) rfl
theorem lm_X10_242 : LkM RX10 242 yJ0_charAt_5068e := tsg_in (i := 1402) (by decide +kernel) rfl
theorem lm_J0_492 : LkM RJ0 492 yJ0_isLatin1_aae02 := tsg_in (i := 1406) (by decide +kernel) rfl
theorem lm_J0_495 : LkM RJ0 495 yJ1_charAt_3b067 := tsg_in (i := 1410) (by decide +kernel) rfl
theorem lm_J1_9 : LkM RJ1 9 yJ0_checkIndex_df160 := tsg_in (i := 1413) (by decide +kernel) rfl
theorem lm_J0_1059 : LkM RJ0 1059 yJ3_checkIndex_8e157 := tsg_in (i := 1418) (by decide +kernel) rfl
theorem lm_J0_498 : LkM RJ0 498 yJ2_charAt_3b067 := tsg_in (i := 1421) (by decide +kernel) rfl
theorem lm_J2_67 : LkM RJ2 67 yJ2_checkIndex_2214a := tsg_in (i := 1424) (by decide +kernel) rfl
theorem lm_J2_48 : LkM RJ2 48 yJ2_length_9d52b := tsg_in (i := 1427) (by decide +kernel) rfl
theorem lm_J2_414 : LkM RJ2 414 yJ0_checkIndex_df160 := tsg_in (i := 1430) (by decide +kernel) rfl
theorem lm_J2_71 : LkM RJ2 71 yJ2_getChar_3b067 := tsg_in (i := 1431) (by decide +kernel) rfl
theorem lm_X10_370 : LkM RX10 370 yX10_isBook := tsg_in (i := 1440) (by decide +kernel) rfl
theorem lm_X10_332 : LkM RX10 332 yX10_isLine := tsg_in (i := 1444) (by decide +kernel) rfl
theorem lm_X10_329 : LkM RX10 329 yX10_isLaw := tsg_in (i := 1448) (by decide +kernel) rfl
theorem lm_X10_133 : LkM RX10 133 yJ9_min_7cf53 := tsg_in (i := 1452) (by decide +kernel) rfl
theorem lm_X10_275 : LkM RX10 275 yX10_eatAs := tsg_in (i := 1453) (by decide +kernel) rfl
theorem lm_X10_266 : LkM RX10 266 yX10_eat := tsg_in (i := 1457) (by decide +kernel) rfl
theorem lm_X10_325 : LkM RX10 325 yX10_isPart := tsg_in (i := 1461) (by decide +kernel) rfl
theorem lm_X10_318 : LkM RX10 318 yX10_begins := tsg_in (i := 1465) (by decide +kernel) rfl
theorem lm_X10_293 : LkM RX10 293 yX10_isTest := tsg_in (i := 1469) (by decide +kernel) rfl
theorem lm_X10_283 : LkM RX10 283 yX10_isBoth := tsg_in (i := 1473) (by decide +kernel) rfl
theorem lm_X10_287 : LkM RX10 287 yX10_isSingle := tsg_in (i := 1477) (by decide +kernel) rfl
theorem lm_X10_290 : LkM RX10 290 yX10_deeper := tsg_in (i := 1481) (by decide +kernel) rfl
theorem lm_X10_279 : LkM RX10 279 yX10_put := tsg_in (i := 1485) (by decide +kernel) rfl
theorem lm_X10_296 : LkM RX10 296 yX10_closes := tsg_in (i := 1489) (by decide +kernel) rfl
theorem lm_X10_299 : LkM RX10 299 yX10_isAbout := tsg_in (i := 1493) (by decide +kernel) rfl
theorem lm_X10_303 : LkM RX10 303 yX10_isCompare := tsg_in (i := 1497) (by decide +kernel) rfl
theorem lm_X10_306 : LkM RX10 306 yX10_isSum := tsg_in (i := 1501) (by decide +kernel) rfl
theorem lm_X10_309 : LkM RX10 309 yX10_isProduct := tsg_in (i := 1505) (by decide +kernel) rfl
theorem lm_X10_312 : LkM RX10 312 yX10_isValue := tsg_in (i := 1509) (by decide +kernel) rfl
theorem lm_X10_315 : LkM RX10 315 yX10_isOfTwo := tsg_in (i := 1513) (by decide +kernel) rfl
theorem lm_X10_320 : LkM RX10 320 yX10_ends := tsg_in (i := 1517) (by decide +kernel) rfl
theorem lm_X10_373 : LkM RX10 373 yX10_errorOf := tsg_in (i := 1521) (by decide +kernel) rfl
theorem lm_X10_350 : LkM RX10 350 yX10_newHouse := tsg_in (i := 1525) (by decide +kernel) rfl
theorem lm_X10_338 : LkM RX10 338 yX10_find := tsg_in (i := 1529) (by decide +kernel) rfl
theorem lm_X10_353 : LkM RX10 353 yX10_itsPlace := tsg_in (i := 1532) (by decide +kernel) rfl
theorem lm_X10_356 : LkM RX10 356 yX10_itsHeight := tsg_in (i := 1537) (by decide +kernel) rfl
theorem lm_X10_359 : LkM RX10 359 yX10_newLaw := tsg_in (i := 1542) (by decide +kernel) rfl
theorem lm_X10_363 : LkM RX10 363 yX10_aHouse := tsg_in (i := 1546) (by decide +kernel) rfl
theorem lm_X10_376 : LkM RX10 376 yX10_settle := tsg_in (i := 1550) (by decide +kernel) rfl
theorem lm_X10_159 : LkM RX10 159 yX10_raiseTo := tsg_in (i := 1554) (by decide +kernel) rfl
theorem lm_X10_148 : LkM RX10 148 yX10_curfew := tsg_in (i := 1558) (by decide +kernel) rfl
theorem lm_L_125 : LkM RL 125 yX10_errorAt := tsg_in (i := 1562) (by decide +kernel) rfl
theorem lm_X10_386 : LkM RX10 386 yX10_ok := tsg_in (i := 1566) (by decide +kernel) rfl
theorem lm_L_129 : LkM RL 129 yX10_houses := tsg_in (i := 1570) (by decide +kernel) rfl
theorem lm_L_133 : LkM RL 133 yX10_laws := tsg_in (i := 1574) (by decide +kernel) rfl
theorem lm_L_137 : LkM RL 137 yX10_days := tsg_in (i := 1578) (by decide +kernel) rfl
theorem lm_L_141 : LkM RL 141 yX10_lawsCarriedOut := tsg_in (i := 1582) (by decide +kernel) rfl
theorem lm_L_145 : LkM RL 145 yX10_allHoursLost := tsg_in (i := 1586) (by decide +kernel) rfl
theorem lm_X10_389 : LkM RX10 389 yX10_allLost := tsg_in (i := 1590) (by decide +kernel) rfl
theorem lm_X10_118 : LkM RX10 118 yX10_lostBy := tsg_in (i := 1594) (by decide +kernel) rfl
theorem lm_X10_107 : LkM RX10 107 yX10_look := tsg_in (i := 1598) (by decide +kernel) rfl
theorem lm_X10_100 : LkM RX10 100 yX10_shadesNow := tsg_in (i := 1602) (by decide +kernel) rfl
theorem lm_X10_93 : LkM RX10 93 yX10_reach := tsg_in (i := 1606) (by decide +kernel) rfl
theorem lm_X10_86 : LkM RX10 86 yX10_tall := tsg_in (i := 1610) (by decide +kernel) rfl
theorem lm_X10_90 : LkM RX10 90 yX10_steps := tsg_in (i := 1614) (by decide +kernel) rfl
theorem lm_X10_80 : LkM RX10 80 yJ9_abs_0f7a4 := tsg_in (i := 1617) (by decide +kernel) rfl
theorem lm_X10_103 : LkM RX10 103 yX10_one := tsg_in (i := 1618) (by decide +kernel) rfl
theorem lm_X10_110 : LkM RX10 110 yJ6_bitCount_0f7a4 := tsg_in (i := 1621) (by decide +kernel) rfl
theorem lm_L_149 : LkM RL 149 yX10_lightHouses := tsg_in (i := 1622) (by decide +kernel) rfl
theorem lm_X10_392 : LkM RX10 392 yX10_light := tsg_in (i := 1626) (by decide +kernel) rfl
theorem lm_L_153 : LkM RL 153 yX10_worstHouse := tsg_in (i := 1630) (by decide +kernel) rfl
theorem lm_X10_185 : LkM RX10 185 yX10_worstOf := tsg_in (i := 1634) (by decide +kernel) rfl
theorem lm_L_156 : LkM RL 156 yX10_darkestWall := tsg_in (i := 1638) (by decide +kernel) rfl
theorem lm_X10_189 : LkM RX10 189 yX10_castOf := tsg_in (i := 1642) (by decide +kernel) rfl
theorem lm_X10_115 : LkM RX10 115 yX10_lostTo := tsg_in (i := 1646) (by decide +kernel) rfl
theorem lm_L_159 : LkM RL 159 yX10_placeOf := tsg_in (i := 1650) (by decide +kernel) rfl
theorem lm_X10_395 : LkM RX10 395 yX10_isHouse := tsg_in (i := 1654) (by decide +kernel) rfl
theorem lm_L_162 : LkM RL 162 yX10_heightOf := tsg_in (i := 1658) (by decide +kernel) rfl
theorem lm_L_165 : LkM RL 165 yX10_hoursLost := tsg_in (i := 1662) (by decide +kernel) rfl
theorem lm_L_168 : LkM RL 168 yX10_castBy := tsg_in (i := 1666) (by decide +kernel) rfl
theorem lm_L_171 : LkM RL 171 yX10_hasCurfew := tsg_in (i := 1670) (by decide +kernel) rfl
theorem lm_X10_398 : LkM RX10 398 yX10_isNot := tsg_in (i := 1674) (by decide +kernel) rfl
theorem lm_L_174 : LkM RL 174 yX10_curfewFrom := tsg_in (i := 1678) (by decide +kernel) rfl
theorem lm_X10_401 : LkM RX10 401 yX10_ofCurfew := tsg_in (i := 1682) (by decide +kernel) rfl
theorem lm_L_177 : LkM RL 177 yX10_curfewTo := tsg_in (i := 1686) (by decide +kernel) rfl
theorem lm_L_181 : LkM RL 181 yX10_hoursLostTo := tsg_in (i := 1690) (by decide +kernel) rfl
theorem lm_L_184 : LkM RL 184 yX10_heightAt := tsg_in (i := 1694) (by decide +kernel) rfl
theorem lm_X10_405 : LkM RX10 405 yX10_isHour := tsg_in (i := 1698) (by decide +kernel) rfl
theorem lm_L_187 : LkM RL 187 yX10_shadowOf := tsg_in (i := 1701) (by decide +kernel) rfl
theorem lm_L_191 : LkM RL 191 yX10_shades := tsg_in (i := 1705) (by decide +kernel) rfl
theorem lm_X10_408 : LkM RX10 408 yX10_isShade := tsg_in (i := 1709) (by decide +kernel) rfl
theorem lm_L_194 : LkM RL 194 yX10_isInTheDark := tsg_in (i := 1713) (by decide +kernel) rfl
theorem lm_L_197 : LkM RL 197 yX10_shadedBy := tsg_in (i := 1717) (by decide +kernel) rfl
theorem lm_L_200 : LkM RL 200 yX10_housesInTheDark := tsg_in (i := 1721) (by decide +kernel) rfl
theorem lm_X10_411 : LkM RX10 411 yX10_inTheDark := tsg_in (i := 1725) (by decide +kernel) rfl
theorem lm_L_203 : LkM RL 203 yX10_setCurfew := tsg_in (i := 1729) (by decide +kernel) rfl
theorem lm_L_206 : LkM RL 206 yX10_endCurfew := tsg_in (i := 1733) (by decide +kernel) rfl
theorem lm_X10_173 : LkM RX10 173 yX10_isOpened := tsg_in (i := 1737) (by decide +kernel) rfl
theorem lm_L_209 : LkM RL 209 yX10_build := tsg_in (i := 1741) (by decide +kernel) rfl
theorem lm_L_212 : LkM RL 212 yX10_move := tsg_in (i := 1745) (by decide +kernel) rfl
theorem lm_L_215 : LkM RL 215 yX10_passDays := tsg_in (i := 1749) (by decide +kernel) rfl
theorem lm_X10_414 : LkM RX10 414 yX10_pass := tsg_in (i := 1753) (by decide +kernel) rfl
theorem lm_X10_182 : LkM RX10 182 yX10_isCarriedOut := tsg_in (i := 1757) (by decide +kernel) rfl
theorem lm_X10_163 : LkM RX10 163 yX10_holds := tsg_in (i := 1761) (by decide +kernel) rfl
theorem lm_X10_142 : LkM RX10 142 yX10_sum := tsg_in (i := 1765) (by decide +kernel) rfl
theorem lm_X10_201 : LkM RX10 201 yX10_isAsked := tsg_in (i := 1769) (by decide +kernel) rfl
theorem lm_X10_210 : LkM RX10 210 yX10_ask := tsg_in (i := 1772) (by decide +kernel) rfl
theorem lm_X10_214 : LkM RX10 214 yX10_reckon := tsg_in (i := 1776) (by decide +kernel) rfl
theorem lm_X10_136 : LkM RX10 136 yJ9_max_7cf53 := tsg_in (i := 1779) (by decide +kernel) rfl
theorem lm_X10_170 : LkM RX10 170 yX10_isCurfewSet := tsg_in (i := 1780) (by decide +kernel) rfl
theorem lm_X10_145 : LkM RX10 145 yX10_held := tsg_in (i := 1784) (by decide +kernel) rfl
theorem lm_X10_176 : LkM RX10 176 yX10_isRaised := tsg_in (i := 1787) (by decide +kernel) rfl
theorem lm_X10_154 : LkM RX10 154 yJ9_min_f86c9 := tsg_in (i := 1791) (by decide +kernel) rfl
theorem lm_X10_157 : LkM RX10 157 yJ9_max_f86c9 := tsg_in (i := 1792) (by decide +kernel) rfl
theorem lm_L_218 : LkM RL 218 yX10_lostAfter := tsg_in (i := 1793) (by decide +kernel) rfl
theorem lm_X10_417 : LkM RX10 417 yX10_keep := tsg_in (i := 1797) (by decide +kernel) rfl
theorem lm_X10_420 : LkM RX10 420 yX10_bringBack := tsg_in (i := 1802) (by decide +kernel) rfl
theorem lm_L_222 : LkM RL 222 yX10_daysUntilLight := tsg_in (i := 1806) (by decide +kernel) rfl
theorem lm_L_225 : LkM RL 225 yX10_fairCurfew := tsg_in (i := 1810) (by decide +kernel) rfl
theorem lm_X10_423 : LkM RX10 423 yX10_fairest := tsg_in (i := 1814) (by decide +kernel) rfl
theorem lm_L_228 : LkM RL 228 yX10_fairestWall := tsg_in (i := 1818) (by decide +kernel) rfl
theorem lm_L_233 : LkM RL 233 yX10_meanLost := tsg_in (i := 1822) (by decide +kernel) rfl
theorem lm_L_238 : LkM RL 238 yX10_digest := tsg_in (i := 1826) (by decide +kernel) rfl
