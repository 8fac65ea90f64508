theorem pf_L_73 : PF RL 73 8 0 (.array (.array .int)) := ⟨RX9, TX9, 7, tyX9, rfl, by decide, lay_X9, Or.inl (tsg_in (i := 1184) (by decide +kernel) rfl), tyX9_ok, nmX9, rfl, rfl⟩
theorem gf_X9_15 : GF RX9 15 8 1 := ⟨RX9, TX9, 7, rfl, by decide, lay_X9, Or.inl (tsg_in (i := 1185) (by decide +kernel) rfl)⟩
theorem pf_X9_15 : PF RX9 15 8 1 (.array (.array .int)) := ⟨RX9, TX9, 7, tyX9, rfl, by decide, lay_X9, Or.inl (tsg_in (i := 1185) (by decide +kernel) rfl), tyX9_ok, nmX9, rfl, rfl⟩
theorem gf_L_108 : GF RL 108 8 1 := ⟨RX9, TX9, 7, rfl, by decide, lay_X9, Or.inl (tsg_in (i := 1186) (by decide +kernel) rfl)⟩
theorem pf_L_108 : PF RL 108 8 1 (.array (.array .int)) := ⟨RX9, TX9, 7, tyX9, rfl, by decide, lay_X9, Or.inl (tsg_in (i := 1186) (by decide +kernel) rfl), tyX9_ok, nmX9, rfl, rfl⟩
theorem gf_X9_20 : GF RX9 20 8 2 := ⟨RX9, TX9, 7, rfl, by decide, lay_X9, Or.inl (tsg_in (i := 1187) (by decide +kernel) rfl)⟩
theorem pf_X9_20 : PF RX9 20 8 2 (.array (.object "ShadowRegistryLaw$Tree")) := ⟨RX9, TX9, 7, tyX9, rfl, by decide, lay_X9, Or.inl (tsg_in (i := 1187) (by decide +kernel) rfl), tyX9_ok, nmX9, rfl, rfl⟩
theorem gf_L_98 : GF RL 98 8 2 := ⟨RX9, TX9, 7, rfl, by decide, lay_X9, Or.inl (tsg_in (i := 1188) (by decide +kernel) rfl)⟩
theorem pf_L_98 : PF RL 98 8 2 (.array (.object "ShadowRegistryLaw$Tree")) := ⟨RX9, TX9, 7, tyX9, rfl, by decide, lay_X9, Or.inl (tsg_in (i := 1188) (by decide +kernel) rfl), tyX9_ok, nmX9, rfl, rfl⟩
theorem gf_X9_24 : GF RX9 24 8 3 := ⟨RX9, TX9, 7, rfl, by decide, lay_X9, Or.inl (tsg_in (i := 1189) (by decide +kernel) rfl)⟩
theorem pf_X9_24 : PF RX9 24 8 3 (.array (.object "ShadowRegistryLaw$Tree")) := ⟨RX9, TX9, 7, tyX9, rfl, by decide, lay_X9, Or.inl (tsg_in (i := 1189) (by decide +kernel) rfl), tyX9_ok, nmX9, rfl, rfl⟩
theorem gf_L_102 : GF RL 102 8 3 := ⟨RX9, TX9, 7, rfl, by decide, lay_X9, Or.inl (tsg_in (i := 1190) (by decide +kernel) rfl)⟩
theorem pf_L_102 : PF RL 102 8 3 (.array (.object "ShadowRegistryLaw$Tree")) := ⟨RX9, TX9, 7, tyX9, rfl, by decide, lay_X9, Or.inl (tsg_in (i := 1190) (by decide +kernel) rfl), tyX9_ok, nmX9, rfl, rfl⟩
theorem gf_X9_27 : GF RX9 27 8 4 := ⟨RX9, TX9, 7, rfl, by decide, lay_X9, Or.inl (tsg_in (i := 1191) (by decide +kernel) rfl)⟩
theorem pf_X9_27 : PF RX9 27 8 4 (.array (.object "ShadowRegistryLaw$Tree")) := ⟨RX9, TX9, 7, tyX9, rfl, by decide, lay_X9, Or.inl (tsg_in (i := 1191) (by decide +kernel) rfl), tyX9_ok, nmX9, rfl, rfl⟩
theorem gf_L_105 : GF RL 105 8 4 := ⟨RX9, TX9, 7, rfl, by decide, lay_X9, Or.inl (tsg_in (i := 1192) (by decide +kernel) rfl)⟩
theorem pf_L_105 : PF RL 105 8 4 (.array (.object "ShadowRegistryLaw$Tree")) := ⟨RX9, TX9, 7, tyX9, rfl, by decide, lay_X9, Or.inl (tsg_in (i := 1192) (by decide +kernel) rfl), tyX9_ok, nmX9, rfl, rfl⟩
theorem gf_X10_16 : GF RX10 16 8 5 := ⟨RX9, TX9, 7, rfl, by decide, lay_X9, Or.inl (tsg_in (i := 1193) (by decide +kernel) rfl)⟩
theorem pf_X10_16 : PF RX10 16 8 5 .int := ⟨RX9, TX9, 7, tyX9, rfl, by decide, lay_X9, Or.inl (tsg_in (i := 1193) (by decide +kernel) rfl), tyX9_ok, nmX9, rfl, rfl⟩
theorem gf_X9_35 : GF RX9 35 8 5 := ⟨RX9, TX9, 7, rfl, by decide, lay_X9, Or.inl (tsg_in (i := 1194) (by decide +kernel) rfl)⟩
theorem pf_X9_35 : PF RX9 35 8 5 .int := ⟨RX9, TX9, 7, tyX9, rfl, by decide, lay_X9, Or.inl (tsg_in (i := 1194) (by decide +kernel) rfl), tyX9_ok, nmX9, rfl, rfl⟩
theorem gf_L_153 : GF RL 153 8 6 := ⟨RX9, TX9, 7, rfl, by decide, lay_X9, Or.inl (tsg_in (i := 1195) (by decide +kernel) rfl)⟩
theorem pf_L_153 : PF RL 153 8 6 .int := ⟨RX9, TX9, 7, tyX9, rfl, by decide, lay_X9, Or.inl (tsg_in (i := 1195) (by decide +kernel) rfl), tyX9_ok, nmX9, rfl, rfl⟩
theorem gf_X9_39 : GF RX9 39 8 6 := ⟨RX9, TX9, 7, rfl, by decide, lay_X9, Or.inl (tsg_in (i := 1196) (by decide +kernel) rfl)⟩
theorem pf_X9_39 : PF RX9 39 8 6 .int := ⟨RX9, TX9, 7, tyX9, rfl, by decide, lay_X9, Or.inl (tsg_in (i := 1196) (by decide +kernel) rfl), tyX9_ok, nmX9, rfl, rfl⟩
theorem gf_X10_7 : GF RX10 7 9 0 := ⟨RX10, TX10, 5, rfl, by decide, lay_X10, Or.inl (tsg_in (i := 1356) (by decide +kernel) rfl)⟩
theorem pf_X10_7 : PF RX10 7 9 0 .int := ⟨RX10, TX10, 5, tyX10, rfl, by decide, lay_X10, Or.inl (tsg_in (i := 1356) (by decide +kernel) rfl), tyX10_ok, nmX10, rfl, rfl⟩
theorem gf_L_41 : GF RL 41 9 0 := ⟨RX10, TX10, 5, rfl, by decide, lay_X10, Or.inl (tsg_in (i := 1357) (by decide +kernel) rfl)⟩
theorem pf_L_41 : PF RL 41 9 0 .int := ⟨RX10, TX10, 5, tyX10, rfl, by decide, lay_X10, Or.inl (tsg_in (i := 1357) (by decide +kernel) rfl), tyX10_ok, nmX10, rfl, rfl⟩
theorem gf_X10_13 : GF RX10 13 9 1 := ⟨RX10, TX10, 5, rfl, by decide, lay_X10, Or.inl (tsg_in (i := 1358) (by decide +kernel) rfl)⟩
theorem pf_X10_13 : PF RX10 13 9 1 .int := ⟨RX10, TX10, 5, tyX10, rfl, by decide, lay_X10, Or.inl (tsg_in (i := 1358) (by decide +kernel) rfl), tyX10_ok, nmX10, rfl, rfl⟩
theorem gf_L_46 : GF RL 46 9 1 := ⟨RX10, TX10, 5, rfl, by decide, lay_X10, Or.inl (tsg_in (i := 1359) (by decide +kernel) rfl)⟩
theorem pf_L_46 : PF RL 46 9 1 .int := ⟨RX10, TX10, 5, tyX10, rfl, by decide, lay_X10, Or.inl (tsg_in (i := 1359) (by decide +kernel) rfl), tyX10_ok, nmX10, rfl, rfl⟩
theorem gf_X10_44 : GF RX10 44 9 2 := ⟨RX10, TX10, 5, rfl, by decide, lay_X10, Or.inl (tsg_in (i := 1360) (by decide +kernel) rfl)⟩
theorem pf_X10_44 : PF RX10 44 9 2 .int := ⟨RX10, TX10, 5, tyX10, rfl, by decide, lay_X10, Or.inl (tsg_in (i := 1360) (by decide +kernel) rfl), tyX10_ok, nmX10, rfl, rfl⟩
theorem gf_L_60 : GF RL 60 9 2 := ⟨RX10, TX10, 5, rfl, by decide, lay_X10, Or.inl (tsg_in (i := 1361) (by decide +kernel) rfl)⟩
theorem pf_L_60 : PF RL 60 9 2 .int := ⟨RX10, TX10, 5, tyX10, rfl, by decide, lay_X10, Or.inl (tsg_in (i := 1361) (by decide +kernel) rfl), tyX10_ok, nmX10, rfl, rfl⟩
theorem gf_X10_36 : GF RX10 36 9 3 := ⟨RX10, TX10, 5, rfl, by decide, lay_X10, Or.inl (tsg_in (i := 1362) (by decide +kernel) rfl)⟩
theorem pf_X10_36 : PF RX10 36 9 3 (.object "ShadowRegistryLaw$Tree") := ⟨RX10, TX10, 5, tyX10, rfl, by decide, lay_X10, Or.inl (tsg_in (i := 1362) (by decide +kernel) rfl), tyX10_ok, nmX10, rfl, rfl⟩
theorem gf_L_53 : GF RL 53 9 3 := ⟨RX10, TX10, 5, rfl, by decide, lay_X10, Or.inl (tsg_in (i := 1363) (by decide +kernel) rfl)⟩
theorem pf_L_53 : PF RL 53 9 3 (.object "ShadowRegistryLaw$Tree") := ⟨RX10, TX10, 5, tyX10, rfl, by decide, lay_X10, Or.inl (tsg_in (i := 1363) (by decide +kernel) rfl), tyX10_ok, nmX10, rfl, rfl⟩
theorem gf_X10_51 : GF RX10 51 9 4 := ⟨RX10, TX10, 5, rfl, by decide, lay_X10, Or.inl (tsg_in (i := 1364) (by decide +kernel) rfl)⟩
theorem pf_X10_51 : PF RX10 51 9 4 (.object "ShadowRegistryLaw$Tree") := ⟨RX10, TX10, 5, tyX10, rfl, by decide, lay_X10, Or.inl (tsg_in (i := 1364) (by decide +kernel) rfl), tyX10_ok, nmX10, rfl, rfl⟩
theorem gf_L_57 : GF RL 57 9 4 := ⟨RX10, TX10, 5, rfl, by decide, lay_X10, Or.inl (tsg_in (i := 1365) (by decide +kernel) rfl)⟩
theorem pf_L_57 : PF RL 57 9 4 (.object "ShadowRegistryLaw$Tree") := ⟨RX10, TX10, 5, tyX10, rfl, by decide, lay_X10, Or.inl (tsg_in (i := 1365) (by decide +kernel) rfl), tyX10_ok, nmX10, rfl, rfl⟩
theorem gf_J5_15 : GF RJ5 15 11 0 := ⟨RJ4, TJ4, 4, rfl, by decide, lay_J4, Or.inl (tsg_in (i := 1419) (by decide +kernel) rfl)⟩
theorem pf_J5_15 : PF RJ5 15 11 0 (.array .byte) := ⟨RJ4, TJ4, 4, tyJ4, rfl, by decide, lay_J4, Or.inl (tsg_in (i := 1419) (by decide +kernel) rfl), tyJ4_ok, nmJ4, rfl, rfl⟩
theorem gf_J5_22 : GF RJ5 22 11 1 := ⟨RJ4, TJ4, 4, rfl, by decide, lay_J4, Or.inl (tsg_in (i := 1420) (by decide +kernel) rfl)⟩
theorem pf_J5_22 : PF RJ5 22 11 1 .byte := ⟨RJ4, TJ4, 4, tyJ4, rfl, by decide, lay_J4, Or.inl (tsg_in (i := 1420) (by decide +kernel) rfl), tyJ4_ok, nmJ4, rfl, rfl⟩
theorem gf_J0_1048 : GF RJ0 1048 11 2 := ⟨RJ4, TJ4, 4, rfl, by decide, lay_J4, Or.inl (tsg_in (i := 1421) (by decide +kernel) rfl)⟩
theorem pf_J0_1048 : PF RJ0 1048 11 2 .boolean := ⟨RJ4, TJ4, 4, tyJ4, rfl, by decide, lay_J4, Or.inl (tsg_in (i := 1421) (by decide +kernel) rfl), tyJ4_ok, nmJ4, rfl, rfl⟩
theorem gf_J5_79 : GF RJ5 79 11 3 := ⟨RJ4, TJ4, 4, rfl, by decide, lay_J4, Or.inl (tsg_in (i := 1422) (by decide +kernel) rfl)⟩
theorem pf_J5_79 : PF RJ5 79 11 3 .int := ⟨RJ4, TJ4, 4, tyJ4, rfl, by decide, lay_J4, Or.inl (tsg_in (i := 1422) (by decide +kernel) rfl), tyJ4_ok, nmJ4, rfl, rfl⟩
theorem gf_J0_9 : GF RJ0 9 10 0 := ⟨RJ0, TJ0, 4, rfl, by decide, lay_J0, Or.inl (tsg_in (i := 1479) (by decide +kernel) rfl)⟩
theorem pff_J0_9 : PFF RJ0 9 10 0 (.array .byte) := ⟨RJ0, TJ0, 4, tyJ0, rfl, by decide, rfl, rfl, lay_J0, tsg_in (i := 1479) (by decide +kernel) rfl, tyJ0_ok, nmJ0, rfl, rfl⟩
theorem gf_J0_15 : GF RJ0 15 10 1 := ⟨RJ0, TJ0, 4, rfl, by decide, lay_J0, Or.inl (tsg_in (i := 1480) (by decide +kernel) rfl)⟩
theorem pff_J0_15 : PFF RJ0 15 10 1 .byte := ⟨RJ0, TJ0, 4, tyJ0, rfl, by decide, rfl, rfl, lay_J0, tsg_in (i := 1480) (by decide +kernel) rfl, tyJ0_ok, nmJ0, rfl, rfl⟩
theorem kw_X7_83 : Cond.fieldLink RX7 83 RX1 "word" "J" ∈ TSg := tsg_in (i := 1536) (by decide +kernel) rfl
theorem yc_X8_init : YC yX8_init cX8_init 1 none 0 := ⟨tsg_in (i := 34) (by decide +kernel) rfl, tsg_in (i := 67) (by decide +kernel) rfl, by decide +kernel⟩
theorem yi_X8_init : YI yX8_init := ⟨tsg_in (i := 66) (by decide +kernel) rfl, rfl⟩
theorem yc_X6_init : YC yX6_init cX6_init 1 none 0 := ⟨tsg_in (i := 35) (by decide +kernel) rfl, tsg_in (i := 75) (by decide +kernel) rfl, by decide +kernel⟩
theorem yi_X6_init : YI yX6_init := ⟨tsg_in (i := 74) (by decide +kernel) rfl, rfl⟩
theorem yc_X0_init : YC yX0_init cX0_init 2 none 0 := ⟨tsg_in (i := 36) (by decide +kernel) rfl, tsg_in (i := 91) (by decide +kernel) rfl, by decide +kernel⟩
theorem yi_X0_init : YI yX0_init := ⟨tsg_in (i := 90) (by decide +kernel) rfl, rfl⟩
theorem yc_X2_init : YC yX2_init cX2_init 1 none 0 := ⟨tsg_in (i := 37) (by decide +kernel) rfl, tsg_in (i := 98) (by decide +kernel) rfl, by decide +kernel⟩
theorem yi_X2_init : YI yX2_init := ⟨tsg_in (i := 97) (by decide +kernel) rfl, rfl⟩
theorem yc_X7_init : YC yX7_init cX7_init 2 none 1 := ⟨tsg_in (i := 39) (by decide +kernel) rfl, tsg_in (i := 181) (by decide +kernel) rfl, by decide +kernel⟩
theorem yi_X7_init : YI yX7_init := ⟨tsg_in (i := 180) (by decide +kernel) rfl, rfl⟩
theorem yc_X3_init : YC yX3_init cX3_init 3 none 2 := ⟨tsg_in (i := 38) (by decide +kernel) rfl, tsg_in (i := 203) (by decide +kernel) rfl, by decide +kernel⟩
theorem yi_X3_init : YI yX3_init := ⟨tsg_in (i := 202) (by decide +kernel) rfl, rfl⟩
theorem yc_X4_init : YC yX4_init cX4_init 2 none 1 := ⟨tsg_in (i := 42) (by decide +kernel) rfl, tsg_in (i := 242) (by decide +kernel) rfl, by decide +kernel⟩
theorem yi_X4_init : YI yX4_init := ⟨tsg_in (i := 241) (by decide +kernel) rfl, rfl⟩
theorem yc_X5_init : YC yX5_init cX5_init 1 none 0 := ⟨tsg_in (i := 43) (by decide +kernel) rfl, tsg_in (i := 258) (by decide +kernel) rfl, by decide +kernel⟩
theorem yi_X5_init : YI yX5_init := ⟨tsg_in (i := 257) (by decide +kernel) rfl, rfl⟩
theorem yc_X8_houses : YC yX8_houses cX8_houses 1 (some .int) 0 := ⟨tsg_in (i := 34) (by decide +kernel) rfl, tsg_in (i := 328) (by decide +kernel) rfl, by decide +kernel⟩
theorem yv_X8_houses : YV yX8_houses := ⟨tsg_in (i := 326) (by decide +kernel) rfl, tsg_in (i := 327) (by decide +kernel) rfl⟩
theorem yc_X8_allHoursLost : YC yX8_allHoursLost cX8_allHoursLost 1 (some .int) 0 := ⟨tsg_in (i := 34) (by decide +kernel) rfl, tsg_in (i := 332) (by decide +kernel) rfl, by decide +kernel⟩
theorem yv_X8_allHoursLost : YV yX8_allHoursLost := ⟨tsg_in (i := 330) (by decide +kernel) rfl, tsg_in (i := 331) (by decide +kernel) rfl⟩
theorem yc_X8_lightHouses : YC yX8_lightHouses cX8_lightHouses 3 (some .int) 0 := ⟨tsg_in (i := 34) (by decide +kernel) rfl, tsg_in (i := 336) (by decide +kernel) rfl, by decide +kernel⟩
theorem yv_X8_lightHouses : YV yX8_lightHouses := ⟨tsg_in (i := 334) (by decide +kernel) rfl, tsg_in (i := 335) (by decide +kernel) rfl⟩
theorem yc_X5_lost : YC yX5_lost cX5_lost 2 (some .int) 1 := ⟨tsg_in (i := 43) (by decide +kernel) rfl, tsg_in (i := 340) (by decide +kernel) rfl, by decide +kernel⟩
theorem yv_X5_lost : YV yX5_lost := ⟨tsg_in (i := 338) (by decide +kernel) rfl, tsg_in (i := 339) (by decide +kernel) rfl⟩
theorem yc_X5_hoursDark : YC yX5_hoursDark cX5_hoursDark 2 (some .int) 1 := ⟨tsg_in (i := 43) (by decide +kernel) rfl, tsg_in (i := 344) (by decide +kernel) rfl, by decide +kernel⟩
theorem yv_X5_hoursDark : YV yX5_hoursDark := ⟨tsg_in (i := 342) (by decide +kernel) rfl, tsg_in (i := 343) (by decide +kernel) rfl⟩
theorem yc_X5_has : YC yX5_has cX5_has 2 (some .boolean) 1 := ⟨tsg_in (i := 43) (by decide +kernel) rfl, tsg_in (i := 348) (by decide +kernel) rfl, by decide +kernel⟩
theorem yv_X5_has : YV yX5_has := ⟨tsg_in (i := 346) (by decide +kernel) rfl, tsg_in (i := 347) (by decide +kernel) rfl⟩
theorem yc_J6_bitCount_0f7a4 : YC yJ6_bitCount_0f7a4 cJ6_bitCount_0f7a4 1 (some .int) 1 := ⟨tsg_in (i := 55) (by decide +kernel) rfl, tsg_in (i := 351) (by decide +kernel) rfl, by decide +kernel⟩
theorem ys_J6_bitCount_0f7a4 : YS yJ6_bitCount_0f7a4 := tsg_in (i := 350) (by decide +kernel) rfl
theorem yc_X8_worstHouse : YC yX8_worstHouse cX8_worstHouse 3 (some .int) 0 := ⟨tsg_in (i := 34) (by decide +kernel) rfl, tsg_in (i := 358) (by decide +kernel) rfl, by decide +kernel⟩
theorem yv_X8_worstHouse : YV yX8_worstHouse := ⟨tsg_in (i := 356) (by decide +kernel) rfl, tsg_in (i := 357) (by decide +kernel) rfl⟩
theorem yc_X8_darkestWall : YC yX8_darkestWall cX8_darkestWall 3 (some .int) 0 := ⟨tsg_in (i := 34) (by decide +kernel) rfl, tsg_in (i := 429) (by decide +kernel) rfl, by decide +kernel⟩
theorem yv_X8_darkestWall : YV yX8_darkestWall := ⟨tsg_in (i := 427) (by decide +kernel) rfl, tsg_in (i := 428) (by decide +kernel) rfl⟩
theorem yc_X5_cast : YC yX5_cast cX5_cast 2 (some .int) 1 := ⟨tsg_in (i := 43) (by decide +kernel) rfl, tsg_in (i := 433) (by decide +kernel) rfl, by decide +kernel⟩
theorem yv_X5_cast : YV yX5_cast := ⟨tsg_in (i := 431) (by decide +kernel) rfl, tsg_in (i := 432) (by decide +kernel) rfl⟩
theorem yc_X8_placeOf : YC yX8_placeOf cX8_placeOf 2 (some .int) 1 := ⟨tsg_in (i := 34) (by decide +kernel) rfl, tsg_in (i := 437) (by decide +kernel) rfl, by decide +kernel⟩
theorem yv_X8_placeOf : YV yX8_placeOf := ⟨tsg_in (i := 435) (by decide +kernel) rfl, tsg_in (i := 436) (by decide +kernel) rfl⟩
theorem yc_X8_checkHouse : YC yX8_checkHouse cX8_checkHouse 2 none 1 := ⟨tsg_in (i := 34) (by decide +kernel) rfl, tsg_in (i := 441) (by decide +kernel) rfl, by decide +kernel⟩
theorem yv_X8_checkHouse : YV yX8_checkHouse := ⟨tsg_in (i := 440) (by decide +kernel) rfl, tsg_in (i := 1) (by decide +kernel) rfl⟩
theorem yc_X5_place : YC yX5_place cX5_place 2 (some .int) 1 := ⟨tsg_in (i := 43) (by decide +kernel) rfl, tsg_in (i := 462) (by decide +kernel) rfl, by decide +kernel⟩
theorem yv_X5_place : YV yX5_place := ⟨tsg_in (i := 460) (by decide +kernel) rfl, tsg_in (i := 461) (by decide +kernel) rfl⟩
theorem yc_X8_heightOf : YC yX8_heightOf cX8_heightOf 2 (some .int) 1 := ⟨tsg_in (i := 34) (by decide +kernel) rfl, tsg_in (i := 466) (by decide +kernel) rfl, by decide +kernel⟩
theorem yv_X8_heightOf : YV yX8_heightOf := ⟨tsg_in (i := 464) (by decide +kernel) rfl, tsg_in (i := 465) (by decide +kernel) rfl⟩
theorem yc_X5_height : YC yX5_height cX5_height 2 (some .int) 1 := ⟨tsg_in (i := 43) (by decide +kernel) rfl, tsg_in (i := 470) (by decide +kernel) rfl, by decide +kernel⟩
theorem yv_X5_height : YV yX5_height := ⟨tsg_in (i := 468) (by decide +kernel) rfl, tsg_in (i := 469) (by decide +kernel) rfl⟩
theorem yc_X8_hoursLost : YC yX8_hoursLost cX8_hoursLost 2 (some .int) 1 := ⟨tsg_in (i := 34) (by decide +kernel) rfl, tsg_in (i := 474) (by decide +kernel) rfl, by decide +kernel⟩
theorem yv_X8_hoursLost : YV yX8_hoursLost := ⟨tsg_in (i := 472) (by decide +kernel) rfl, tsg_in (i := 473) (by decide +kernel) rfl⟩
theorem yc_X8_castBy : YC yX8_castBy cX8_castBy 2 (some .int) 1 := ⟨tsg_in (i := 34) (by decide +kernel) rfl, tsg_in (i := 478) (by decide +kernel) rfl, by decide +kernel⟩
theorem yv_X8_castBy : YV yX8_castBy := ⟨tsg_in (i := 476) (by decide +kernel) rfl, tsg_in (i := 477) (by decide +kernel) rfl⟩
theorem yc_X8_hasCurfew : YC yX8_hasCurfew cX8_hasCurfew 2 (some .boolean) 1 := ⟨tsg_in (i := 34) (by decide +kernel) rfl, tsg_in (i := 482) (by decide +kernel) rfl, by decide +kernel⟩
theorem yv_X8_hasCurfew : YV yX8_hasCurfew := ⟨tsg_in (i := 480) (by decide +kernel) rfl, tsg_in (i := 481) (by decide +kernel) rfl⟩
theorem yc_X5_firstLow : YC yX5_firstLow cX5_firstLow 2 (some .int) 1 := ⟨tsg_in (i := 43) (by decide +kernel) rfl, tsg_in (i := 486) (by decide +kernel) rfl, by decide +kernel⟩
theorem yv_X5_firstLow : YV yX5_firstLow := ⟨tsg_in (i := 484) (by decide +kernel) rfl, tsg_in (i := 485) (by decide +kernel) rfl⟩
theorem yc_X8_curfewFrom : YC yX8_curfewFrom cX8_curfewFrom 2 (some .int) 1 := ⟨tsg_in (i := 34) (by decide +kernel) rfl, tsg_in (i := 490) (by decide +kernel) rfl, by decide +kernel⟩
theorem yv_X8_curfewFrom : YV yX8_curfewFrom := ⟨tsg_in (i := 488) (by decide +kernel) rfl, tsg_in (i := 489) (by decide +kernel) rfl⟩
theorem yc_X8_checkCurfew : YC yX8_checkCurfew cX8_checkCurfew 2 none 1 := ⟨tsg_in (i := 34) (by decide +kernel) rfl, tsg_in (i := 494) (by decide +kernel) rfl, by decide +kernel⟩
theorem yv_X8_checkCurfew : YV yX8_checkCurfew := ⟨tsg_in (i := 493) (by decide +kernel) rfl, tsg_in (i := 2) (by decide +kernel) rfl⟩
theorem yc_X8_curfewTo : YC yX8_curfewTo cX8_curfewTo 2 (some .int) 1 := ⟨tsg_in (i := 34) (by decide +kernel) rfl, tsg_in (i := 499) (by decide +kernel) rfl, by decide +kernel⟩
theorem yv_X8_curfewTo : YV yX8_curfewTo := ⟨tsg_in (i := 497) (by decide +kernel) rfl, tsg_in (i := 498) (by decide +kernel) rfl⟩
theorem yc_X5_lastLow : YC yX5_lastLow cX5_lastLow 2 (some .int) 1 := ⟨tsg_in (i := 43) (by decide +kernel) rfl, tsg_in (i := 503) (by decide +kernel) rfl, by decide +kernel⟩
theorem yv_X5_lastLow : YV yX5_lastLow := ⟨tsg_in (i := 501) (by decide +kernel) rfl, tsg_in (i := 502) (by decide +kernel) rfl⟩
theorem yc_X8_hoursLostTo : YC yX8_hoursLostTo cX8_hoursLostTo 3 (some .int) 2 := ⟨tsg_in (i := 34) (by decide +kernel) rfl, tsg_in (i := 507) (by decide +kernel) rfl, by decide +kernel⟩
theorem yv_X8_hoursLostTo : YV yX8_hoursLostTo := ⟨tsg_in (i := 505) (by decide +kernel) rfl, tsg_in (i := 506) (by decide +kernel) rfl⟩
theorem yc_X5_hoursShaded : YC yX5_hoursShaded cX5_hoursShaded 3 (some .int) 2 := ⟨tsg_in (i := 43) (by decide +kernel) rfl, tsg_in (i := 511) (by decide +kernel) rfl, by decide +kernel⟩
theorem yv_X5_hoursShaded : YV yX5_hoursShaded := ⟨tsg_in (i := 509) (by decide +kernel) rfl, tsg_in (i := 510) (by decide +kernel) rfl⟩
theorem yc_X8_heightAt : YC yX8_heightAt cX8_heightAt 3 (some .int) 2 := ⟨tsg_in (i := 34) (by decide +kernel) rfl, tsg_in (i := 516) (by decide +kernel) rfl, by decide +kernel⟩
theorem yv_X8_heightAt : YV yX8_heightAt := ⟨tsg_in (i := 514) (by decide +kernel) rfl, tsg_in (i := 515) (by decide +kernel) rfl⟩
theorem yc_X8_checkHour : YC yX8_checkHour cX8_checkHour 1 none 1 := ⟨tsg_in (i := 34) (by decide +kernel) rfl, tsg_in (i := 519) (by decide +kernel) rfl, by decide +kernel⟩
theorem ys_X8_checkHour : YS yX8_checkHour := tsg_in (i := 518) (by decide +kernel) rfl
theorem yc_X5_wallAt : YC yX5_wallAt cX5_wallAt 3 (some .int) 2 := ⟨tsg_in (i := 43) (by decide +kernel) rfl, tsg_in (i := 524) (by decide +kernel) rfl, by decide +kernel⟩
theorem yv_X5_wallAt : YV yX5_wallAt := ⟨tsg_in (i := 522) (by decide +kernel) rfl, tsg_in (i := 523) (by decide +kernel) rfl⟩
theorem yc_X8_shadowOf : YC yX8_shadowOf cX8_shadowOf 3 (some .int) 2 := ⟨tsg_in (i := 34) (by decide +kernel) rfl, tsg_in (i := 528) (by decide +kernel) rfl, by decide +kernel⟩
theorem yv_X8_shadowOf : YV yX8_shadowOf := ⟨tsg_in (i := 526) (by decide +kernel) rfl, tsg_in (i := 527) (by decide +kernel) rfl⟩
theorem yc_X5_reach : YC yX5_reach cX5_reach 4 (some .int) 2 := ⟨tsg_in (i := 43) (by decide +kernel) rfl, tsg_in (i := 532) (by decide +kernel) rfl, by decide +kernel⟩
theorem yv_X5_reach : YV yX5_reach := ⟨tsg_in (i := 530) (by decide +kernel) rfl, tsg_in (i := 531) (by decide +kernel) rfl⟩
theorem yc_J9_abs_0f7a4 : YC yJ9_abs_0f7a4 cJ9_abs_0f7a4 1 (some .int) 1 := ⟨tsg_in (i := 50) (by decide +kernel) rfl, tsg_in (i := 535) (by decide +kernel) rfl, by decide +kernel⟩
theorem ys_J9_abs_0f7a4 : YS yJ9_abs_0f7a4 := tsg_in (i := 534) (by decide +kernel) rfl
theorem yc_X8_shades : YC yX8_shades cX8_shades 4 (some .boolean) 3 := ⟨tsg_in (i := 34) (by decide +kernel) rfl, tsg_in (i := 540) (by decide +kernel) rfl, by decide +kernel⟩
theorem yv_X8_shades : YV yX8_shades := ⟨tsg_in (i := 538) (by decide +kernel) rfl, tsg_in (i := 539) (by decide +kernel) rfl⟩
theorem yc_X8_holdsHour : YC yX8_holdsHour cX8_holdsHour 2 (some .boolean) 2 := ⟨tsg_in (i := 34) (by decide +kernel) rfl, tsg_in (i := 543) (by decide +kernel) rfl, by decide +kernel⟩
theorem ys_X8_holdsHour : YS yX8_holdsHour := tsg_in (i := 542) (by decide +kernel) rfl
theorem yc_X8_isInTheDark : YC yX8_isInTheDark cX8_isInTheDark 3 (some .boolean) 2 := ⟨tsg_in (i := 34) (by decide +kernel) rfl, tsg_in (i := 547) (by decide +kernel) rfl, by decide +kernel⟩
theorem yv_X8_isInTheDark : YV yX8_isInTheDark := ⟨tsg_in (i := 545) (by decide +kernel) rfl, tsg_in (i := 546) (by decide +kernel) rfl⟩
theorem yc_X8_shadedBy : YC yX8_shadedBy cX8_shadedBy 7 (some .int) 2 := ⟨tsg_in (i := 34) (by decide +kernel) rfl, tsg_in (i := 552) (by decide +kernel) rfl, by decide +kernel⟩
theorem yv_X8_shadedBy : YV yX8_shadedBy := ⟨tsg_in (i := 550) (by decide +kernel) rfl, tsg_in (i := 551) (by decide +kernel) rfl⟩
theorem yc_X8_housesInTheDark : YC yX8_housesInTheDark cX8_housesInTheDark 2 (some .int) 1 := ⟨tsg_in (i := 34) (by decide +kernel) rfl, tsg_in (i := 558) (by decide +kernel) rfl, by decide +kernel⟩
theorem yv_X8_housesInTheDark : YV yX8_housesInTheDark := ⟨tsg_in (i := 556) (by decide +kernel) rfl, tsg_in (i := 557) (by decide +kernel) rfl⟩
theorem yc_X8_countDark : YC yX8_countDark cX8_countDark 4 (some .int) 1 := ⟨tsg_in (i := 34) (by decide +kernel) rfl, tsg_in (i := 562) (by decide +kernel) rfl, by decide +kernel⟩
theorem yv_X8_countDark : YV yX8_countDark := ⟨tsg_in (i := 561) (by decide +kernel) rfl, tsg_in (i := 3) (by decide +kernel) rfl⟩
theorem yc_X8_setCurfew : YC yX8_setCurfew cX8_setCurfew 4 (some .int) 3 := ⟨tsg_in (i := 34) (by decide +kernel) rfl, tsg_in (i := 566) (by decide +kernel) rfl, by decide +kernel⟩
theorem yv_X8_setCurfew : YV yX8_setCurfew := ⟨tsg_in (i := 564) (by decide +kernel) rfl, tsg_in (i := 565) (by decide +kernel) rfl⟩
theorem yc_X5_giveCurfew : YC yX5_giveCurfew cX5_giveCurfew 4 (some .boolean) 3 := ⟨tsg_in (i := 43) (by decide +kernel) rfl, tsg_in (i := 586) (by decide +kernel) rfl, by decide +kernel⟩
theorem yv_X5_giveCurfew : YV yX5_giveCurfew := ⟨tsg_in (i := 584) (by decide +kernel) rfl, tsg_in (i := 585) (by decide +kernel) rfl⟩
theorem yc_X5_renew : YC yX5_renew cX5_renew 3 none 1 := ⟨tsg_in (i := 43) (by decide +kernel) rfl, tsg_in (i := 590) (by decide +kernel) rfl, by decide +kernel⟩
theorem yv_X5_renew : YV yX5_renew := ⟨tsg_in (i := 589) (by decide +kernel) rfl, tsg_in (i := 4) (by decide +kernel) rfl⟩
theorem yc_X5_findHoursShaded : YC yX5_findHoursShaded cX5_findHoursShaded 9 (some .int) 2 := ⟨tsg_in (i := 43) (by decide +kernel) rfl, tsg_in (i := 594) (by decide +kernel) rfl, by decide +kernel⟩
theorem yv_X5_findHoursShaded : YV yX5_findHoursShaded := ⟨tsg_in (i := 593) (by decide +kernel) rfl, tsg_in (i := 5) (by decide +kernel) rfl⟩
theorem yc_X5_addUp : YC yX5_addUp cX5_addUp 5 none 0 := ⟨tsg_in (i := 43) (by decide +kernel) rfl, tsg_in (i := 599) (by decide +kernel) rfl, by decide +kernel⟩
theorem yv_X5_addUp : YV yX5_addUp := ⟨tsg_in (i := 598) (by decide +kernel) rfl, tsg_in (i := 6) (by decide +kernel) rfl⟩
theorem yc_X8_endCurfew : YC yX8_endCurfew cX8_endCurfew 2 (some .int) 1 := ⟨tsg_in (i := 34) (by decide +kernel) rfl, tsg_in (i := 604) (by decide +kernel) rfl, by decide +kernel⟩
theorem yv_X8_endCurfew : YV yX8_endCurfew := ⟨tsg_in (i := 602) (by decide +kernel) rfl, tsg_in (i := 603) (by decide +kernel) rfl⟩
theorem yc_X8_build : YC yX8_build cX8_build 4 (some .int) 2 := ⟨tsg_in (i := 34) (by decide +kernel) rfl, tsg_in (i := 608) (by decide +kernel) rfl, by decide +kernel⟩
theorem yv_X8_build : YV yX8_build := ⟨tsg_in (i := 606) (by decide +kernel) rfl, tsg_in (i := 607) (by decide +kernel) rfl⟩
theorem yc_X5_giveHeight : YC yX5_giveHeight cX5_giveHeight 3 (some .boolean) 2 := ⟨tsg_in (i := 43) (by decide +kernel) rfl, tsg_in (i := 613) (by decide +kernel) rfl, by decide +kernel⟩
theorem yv_X5_giveHeight : YV yX5_giveHeight := ⟨tsg_in (i := 611) (by decide +kernel) rfl, tsg_in (i := 612) (by decide +kernel) rfl⟩
theorem yc_X8_passDays : YC yX8_passDays cX8_passDays 4 (some .int) 1 := ⟨tsg_in (i := 34) (by decide +kernel) rfl, tsg_in (i := 617) (by decide +kernel) rfl, by decide +kernel⟩
theorem yv_X8_passDays : YV yX8_passDays := ⟨tsg_in (i := 615) (by decide +kernel) rfl, tsg_in (i := 616) (by decide +kernel) rfl⟩
theorem yc_X8_checkDays : YC yX8_checkDays cX8_checkDays 1 none 1 := ⟨tsg_in (i := 34) (by decide +kernel) rfl, tsg_in (i := 620) (by decide +kernel) rfl, by decide +kernel⟩
theorem ys_X8_checkDays : YS yX8_checkDays := tsg_in (i := 619) (by decide +kernel) rfl
theorem yc_X4_passDay : YC yX4_passDay cX4_passDay 4 none 1 := ⟨tsg_in (i := 42) (by decide +kernel) rfl, tsg_in (i := 625) (by decide +kernel) rfl, by decide +kernel⟩
theorem yv_X4_passDay : YV yX4_passDay := ⟨tsg_in (i := 623) (by decide +kernel) rfl, tsg_in (i := 624) (by decide +kernel) rfl⟩
theorem yc_X0_lawAt : YC yX0_lawAt cX0_lawAt 2 (some (.object "ShadowRegistry$Law")) 1 := ⟨tsg_in (i := 36) (by decide +kernel) rfl, tsg_in (i := 629) (by decide +kernel) rfl, by decide +kernel⟩
theorem yv_X0_lawAt : YV yX0_lawAt := ⟨tsg_in (i := 627) (by decide +kernel) rfl, tsg_in (i := 628) (by decide +kernel) rfl⟩
theorem yc_X4_carryOut : YC yX4_carryOut cX4_carryOut 6 (some .boolean) 2 := ⟨tsg_in (i := 42) (by decide +kernel) rfl, tsg_in (i := 633) (by decide +kernel) rfl, by decide +kernel⟩
theorem yv_X4_carryOut : YV yX4_carryOut := ⟨tsg_in (i := 632) (by decide +kernel) rfl, tsg_in (i := 7) (by decide +kernel) rfl⟩
theorem yc_X4_reckon : YC yX4_reckon cX4_reckon 8 (some .int) 3 := ⟨tsg_in (i := 42) (by decide +kernel) rfl, tsg_in (i := 637) (by decide +kernel) rfl, by decide +kernel⟩
theorem yv_X4_reckon : YV yX4_reckon := ⟨tsg_in (i := 636) (by decide +kernel) rfl, tsg_in (i := 8) (by decide +kernel) rfl⟩
theorem yc_J9_max_7cf53 : YC yJ9_max_7cf53 cJ9_max_7cf53 2 (some .int) 2 := ⟨tsg_in (i := 50) (by decide +kernel) rfl, tsg_in (i := 640) (by decide +kernel) rfl, by decide +kernel⟩
theorem ys_J9_max_7cf53 : YS yJ9_max_7cf53 := tsg_in (i := 639) (by decide +kernel) rfl
theorem yc_X4_leaf : YC yX4_leaf cX4_leaf 4 (some .int) 4 := ⟨tsg_in (i := 42) (by decide +kernel) rfl, tsg_in (i := 643) (by decide +kernel) rfl, by decide +kernel⟩
theorem ys_X4_leaf : YS yX4_leaf := tsg_in (i := 642) (by decide +kernel) rfl
theorem yc_X5_mostLost : YC yX5_mostLost cX5_mostLost 3 (some .int) 0 := ⟨tsg_in (i := 43) (by decide +kernel) rfl, tsg_in (i := 647) (by decide +kernel) rfl, by decide +kernel⟩
theorem yv_X5_mostLost : YV yX5_mostLost := ⟨tsg_in (i := 645) (by decide +kernel) rfl, tsg_in (i := 646) (by decide +kernel) rfl⟩
theorem yc_X4_truth : YC yX4_truth cX4_truth 1 (some .int) 1 := ⟨tsg_in (i := 42) (by decide +kernel) rfl, tsg_in (i := 655) (by decide +kernel) rfl, by decide +kernel⟩
theorem ys_X4_truth : YS yX4_truth := tsg_in (i := 654) (by decide +kernel) rfl
theorem yc_X4_push : YC yX4_push cX4_push 2 none 1 := ⟨tsg_in (i := 42) (by decide +kernel) rfl, tsg_in (i := 659) (by decide +kernel) rfl, by decide +kernel⟩
theorem yv_X4_push : YV yX4_push := ⟨tsg_in (i := 658) (by decide +kernel) rfl, tsg_in (i := 9) (by decide +kernel) rfl⟩
theorem yc_X4_pop : YC yX4_pop cX4_pop 1 (some .int) 0 := ⟨tsg_in (i := 42) (by decide +kernel) rfl, tsg_in (i := 663) (by decide +kernel) rfl, by decide +kernel⟩
theorem yv_X4_pop : YV yX4_pop := ⟨tsg_in (i := 662) (by decide +kernel) rfl, tsg_in (i := 10) (by decide +kernel) rfl⟩
theorem yc_X4_sumOf : YC yX4_sumOf cX4_sumOf 3 (some .int) 3 := ⟨tsg_in (i := 42) (by decide +kernel) rfl, tsg_in (i := 666) (by decide +kernel) rfl, by decide +kernel⟩
theorem ys_X4_sumOf : YS yX4_sumOf := tsg_in (i := 665) (by decide +kernel) rfl
theorem yc_J9_min_7cf53 : YC yJ9_min_7cf53 cJ9_min_7cf53 2 (some .int) 2 := ⟨tsg_in (i := 50) (by decide +kernel) rfl, tsg_in (i := 669) (by decide +kernel) rfl, by decide +kernel⟩
theorem ys_J9_min_7cf53 : YS yJ9_min_7cf53 := tsg_in (i := 668) (by decide +kernel) rfl
theorem yc_X4_testOf : YC yX4_testOf cX4_testOf 3 (some .boolean) 3 := ⟨tsg_in (i := 42) (by decide +kernel) rfl, tsg_in (i := 672) (by decide +kernel) rfl, by decide +kernel⟩
theorem ys_X4_testOf : YS yX4_testOf := tsg_in (i := 671) (by decide +kernel) rfl
theorem yc_X8_held : YC yX8_held cX8_held 4 (some .int) 3 := ⟨tsg_in (i := 34) (by decide +kernel) rfl, tsg_in (i := 676) (by decide +kernel) rfl, by decide +kernel⟩
theorem ys_X8_held : YS yX8_held := tsg_in (i := 675) (by decide +kernel) rfl
theorem yc_J9_min_f86c9 : YC yJ9_min_f86c9 cJ9_min_f86c9 4 (some .long) 2 := ⟨tsg_in (i := 50) (by decide +kernel) rfl, tsg_in (i := 679) (by decide +kernel) rfl, by decide +kernel⟩
theorem ys_J9_min_f86c9 : YS yJ9_min_f86c9 := tsg_in (i := 678) (by decide +kernel) rfl
theorem yc_J9_max_f86c9 : YC yJ9_max_f86c9 cJ9_max_f86c9 4 (some .long) 2 := ⟨tsg_in (i := 50) (by decide +kernel) rfl, tsg_in (i := 682) (by decide +kernel) rfl, by decide +kernel⟩
theorem ys_J9_max_f86c9 : YS yJ9_max_f86c9 := tsg_in (i := 681) (by decide +kernel) rfl
theorem yc_X8_lostAfter : YC yX8_lostAfter cX8_lostAfter 3 (some .int) 1 := ⟨tsg_in (i := 34) (by decide +kernel) rfl, tsg_in (i := 687) (by decide +kernel) rfl, by decide +kernel⟩
theorem yv_X8_lostAfter : YV yX8_lostAfter := ⟨tsg_in (i := 685) (by decide +kernel) rfl, tsg_in (i := 686) (by decide +kernel) rfl⟩
theorem yc_X5_become : YC yX5_become cX5_become 2 none 1 := ⟨tsg_in (i := 43) (by decide +kernel) rfl, tsg_in (i := 691) (by decide +kernel) rfl, by decide +kernel⟩
theorem yv_X5_become : YV yX5_become := ⟨tsg_in (i := 689) (by decide +kernel) rfl, tsg_in (i := 690) (by decide +kernel) rfl⟩
theorem yc_X8_daysUntilLight : YC yX8_daysUntilLight cX8_daysUntilLight 2 (some .int) 0 := ⟨tsg_in (i := 34) (by decide +kernel) rfl, tsg_in (i := 698) (by decide +kernel) rfl, by decide +kernel⟩
theorem yv_X8_daysUntilLight : YV yX8_daysUntilLight := ⟨tsg_in (i := 696) (by decide +kernel) rfl, tsg_in (i := 697) (by decide +kernel) rfl⟩
theorem yc_X8_fairCurfew : YC yX8_fairCurfew cX8_fairCurfew 6 (some .int) 2 := ⟨tsg_in (i := 34) (by decide +kernel) rfl, tsg_in (i := 702) (by decide +kernel) rfl, by decide +kernel⟩
theorem yv_X8_fairCurfew : YV yX8_fairCurfew := ⟨tsg_in (i := 700) (by decide +kernel) rfl, tsg_in (i := 701) (by decide +kernel) rfl⟩
theorem yc_X8_checkCurfewHours : YC yX8_checkCurfewHours cX8_checkCurfewHours 1 none 1 := ⟨tsg_in (i := 34) (by decide +kernel) rfl, tsg_in (i := 705) (by decide +kernel) rfl, by decide +kernel⟩
theorem ys_X8_checkCurfewHours : YS yX8_checkCurfewHours := tsg_in (i := 704) (by decide +kernel) rfl
theorem yc_X8_fairestWall : YC yX8_fairestWall cX8_fairestWall 6 (some .int) 1 := ⟨tsg_in (i := 34) (by decide +kernel) rfl, tsg_in (i := 710) (by decide +kernel) rfl, by decide +kernel⟩
theorem yv_X8_fairestWall : YV yX8_fairestWall := ⟨tsg_in (i := 708) (by decide +kernel) rfl, tsg_in (i := 709) (by decide +kernel) rfl⟩
theorem yc_X8_digest : YC yX8_digest cX8_digest 5 (some .long) 0 := ⟨tsg_in (i := 34) (by decide +kernel) rfl, tsg_in (i := 714) (by decide +kernel) rfl, by decide +kernel⟩
theorem yv_X8_digest : YV yX8_digest := ⟨tsg_in (i := 712) (by decide +kernel) rfl, tsg_in (i := 713) (by decide +kernel) rfl⟩
theorem yc_X8_laws : YC yX8_laws cX8_laws 1 (some .int) 0 := ⟨tsg_in (i := 34) (by decide +kernel) rfl, tsg_in (i := 721) (by decide +kernel) rfl, by decide +kernel⟩
theorem yv_X8_laws : YV yX8_laws := ⟨tsg_in (i := 719) (by decide +kernel) rfl, tsg_in (i := 720) (by decide +kernel) rfl⟩
theorem yc_X8_days : YC yX8_days cX8_days 1 (some .int) 0 := ⟨tsg_in (i := 34) (by decide +kernel) rfl, tsg_in (i := 725) (by decide +kernel) rfl, by decide +kernel⟩
theorem yv_X8_days : YV yX8_days := ⟨tsg_in (i := 723) (by decide +kernel) rfl, tsg_in (i := 724) (by decide +kernel) rfl⟩
theorem yc_X8_lawsCarriedOut : YC yX8_lawsCarriedOut cX8_lawsCarriedOut 1 (some .int) 0 := ⟨tsg_in (i := 34) (by decide +kernel) rfl, tsg_in (i := 729) (by decide +kernel) rfl, by decide +kernel⟩
theorem yv_X8_lawsCarriedOut : YV yX8_lawsCarriedOut := ⟨tsg_in (i := 727) (by decide +kernel) rfl, tsg_in (i := 728) (by decide +kernel) rfl⟩
theorem yc_X9_pass : YC yX9_pass cX9_pass 6 none 0 := ⟨tsg_in (i := 48) (by decide +kernel) rfl, tsg_in (i := 735) (by decide +kernel) rfl, by decide +kernel⟩
theorem yv_X9_pass : YV yX9_pass := ⟨tsg_in (i := 733) (by decide +kernel) rfl, tsg_in (i := 734) (by decide +kernel) rfl⟩
theorem yc_X10_of : YC yX10_of cX10_of 2 (some .int) 1 := ⟨tsg_in (i := 56) (by decide +kernel) rfl, tsg_in (i := 739) (by decide +kernel) rfl, by decide +kernel⟩
theorem yv_X10_of : YV yX10_of := ⟨tsg_in (i := 737) (by decide +kernel) rfl, tsg_in (i := 738) (by decide +kernel) rfl⟩
theorem yc_X9_worst : YC yX9_worst cX9_worst 3 (some .int) 0 := ⟨tsg_in (i := 48) (by decide +kernel) rfl, tsg_in (i := 743) (by decide +kernel) rfl, by decide +kernel⟩
theorem yv_X9_worst : YV yX9_worst := ⟨tsg_in (i := 741) (by decide +kernel) rfl, tsg_in (i := 742) (by decide +kernel) rfl⟩
theorem yc_X9_lost : YC yX9_lost cX9_lost 4 (some .int) 1 := ⟨tsg_in (i := 48) (by decide +kernel) rfl, tsg_in (i := 747) (by decide +kernel) rfl, by decide +kernel⟩
theorem yv_X9_lost : YV yX9_lost := ⟨tsg_in (i := 745) (by decide +kernel) rfl, tsg_in (i := 746) (by decide +kernel) rfl⟩
theorem yc_X9_shadedBy : YC yX9_shadedBy cX9_shadedBy 7 (some .int) 2 := ⟨tsg_in (i := 48) (by decide +kernel) rfl, tsg_in (i := 751) (by decide +kernel) rfl, by decide +kernel⟩
theorem yv_X9_shadedBy : YV yX9_shadedBy := ⟨tsg_in (i := 749) (by decide +kernel) rfl, tsg_in (i := 750) (by decide +kernel) rfl⟩
theorem yc_X9_shades : YC yX9_shades cX9_shades 6 (some .boolean) 3 := ⟨tsg_in (i := 48) (by decide +kernel) rfl, tsg_in (i := 755) (by decide +kernel) rfl, by decide +kernel⟩
theorem yv_X9_shades : YV yX9_shades := ⟨tsg_in (i := 753) (by decide +kernel) rfl, tsg_in (i := 754) (by decide +kernel) rfl⟩
theorem yc_X9_reach : YC yX9_reach cX9_reach 5 (some .int) 2 := ⟨tsg_in (i := 48) (by decide +kernel) rfl, tsg_in (i := 759) (by decide +kernel) rfl, by decide +kernel⟩
theorem yv_X9_reach : YV yX9_reach := ⟨tsg_in (i := 757) (by decide +kernel) rfl, tsg_in (i := 758) (by decide +kernel) rfl⟩
theorem yc_X9_tall : YC yX9_tall cX9_tall 3 (some .int) 2 := ⟨tsg_in (i := 48) (by decide +kernel) rfl, tsg_in (i := 763) (by decide +kernel) rfl, by decide +kernel⟩
theorem yv_X9_tall : YV yX9_tall := ⟨tsg_in (i := 761) (by decide +kernel) rfl, tsg_in (i := 762) (by decide +kernel) rfl⟩
theorem yc_X9_cast : YC yX9_cast cX9_cast 4 (some .int) 1 := ⟨tsg_in (i := 48) (by decide +kernel) rfl, tsg_in (i := 768) (by decide +kernel) rfl, by decide +kernel⟩
theorem yv_X9_cast : YV yX9_cast := ⟨tsg_in (i := 766) (by decide +kernel) rfl, tsg_in (i := 767) (by decide +kernel) rfl⟩
theorem yc_X9_lostTo : YC yX9_lostTo cX9_lostTo 5 (some .int) 2 := ⟨tsg_in (i := 48) (by decide +kernel) rfl, tsg_in (i := 772) (by decide +kernel) rfl, by decide +kernel⟩
theorem yv_X9_lostTo : YV yX9_lostTo := ⟨tsg_in (i := 770) (by decide +kernel) rfl, tsg_in (i := 771) (by decide +kernel) rfl⟩
theorem yc_X10_ofTwo : YC yX10_ofTwo cX10_ofTwo 3 (some .int) 2 := ⟨tsg_in (i := 56) (by decide +kernel) rfl, tsg_in (i := 779) (by decide +kernel) rfl, by decide +kernel⟩
theorem yv_X10_ofTwo : YV yX10_ofTwo := ⟨tsg_in (i := 777) (by decide +kernel) rfl, tsg_in (i := 11) (by decide +kernel) rfl⟩
theorem yc_X9_held : YC yX9_held cX9_held 3 (some .int) 3 := ⟨tsg_in (i := 48) (by decide +kernel) rfl, tsg_in (i := 782) (by decide +kernel) rfl, by decide +kernel⟩
theorem ys_X9_held : YS yX9_held := tsg_in (i := 781) (by decide +kernel) rfl
theorem yv_X9_isSame : YV yX9_isSame := ⟨tsg_in (i := 784) (by decide +kernel) rfl, tsg_in (i := 785) (by decide +kernel) rfl⟩
theorem yc_X9_all : YC yX9_all cX9_all 3 (some .int) 0 := ⟨tsg_in (i := 48) (by decide +kernel) rfl, tsg_in (i := 795) (by decide +kernel) rfl, by decide +kernel⟩
theorem yv_X9_all : YV yX9_all := ⟨tsg_in (i := 793) (by decide +kernel) rfl, tsg_in (i := 794) (by decide +kernel) rfl⟩
