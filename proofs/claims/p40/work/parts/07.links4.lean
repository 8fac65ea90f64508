set_option maxRecDepth 1000000 in
theorem yc_X9_isSame : YC yX9_isSame cX9_isSame 12 (some .boolean) 1 := ⟨tsg_in (i := 48) (by decide +kernel) rfl, tsg_in (i := 786) rfl rfl, by decide +kernel⟩
set_option maxRecDepth 1000000 in
theorem yc_L_told : YC yL_told cL_told 11 (some (.object "ShadowRegistryLaw$Sim")) 3 := ⟨tsg_in (i := 33) (by decide +kernel) rfl, tsg_in (i := 1171) rfl rfl, by decide +kernel⟩
set_option maxRecDepth 1000000 in
theorem yc_X10_text : YC yX10_text cX10_text 4 (some (.object "java/lang/String")) 0 := ⟨tsg_in (i := 56) (by decide +kernel) rfl, tsg_in (i := 1390) rfl rfl, by decide +kernel⟩
