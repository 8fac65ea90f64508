theorem yc_X8_meanLost : YC yX8_meanLost cX8_meanLost 1 (some .double) 0 := ⟨tsg_in (i := 34) (by decide +kernel) rfl, tsg_in (i := 799) (by decide +kernel) rfl, by decide +kernel⟩
theorem yv_X8_meanLost : YV yX8_meanLost := ⟨tsg_in (i := 797) (by decide +kernel) rfl, tsg_in (i := 798) (by decide +kernel) rfl⟩
theorem yc_L_below : YC yL_below cL_below 2 (some .int) 2 := ⟨tsg_in (i := 33) (by decide +kernel) rfl, tsg_in (i := 820) (by decide +kernel) rfl, by decide +kernel⟩
theorem ys_L_below : YS yL_below := tsg_in (i := 819) (by decide +kernel) rfl
theorem yc_L_cell : YC yL_cell cL_cell 2 (some .int) 2 := ⟨tsg_in (i := 33) (by decide +kernel) rfl, tsg_in (i := 824) (by decide +kernel) rfl, by decide +kernel⟩
theorem ys_L_cell : YS yL_cell := tsg_in (i := 823) (by decide +kernel) rfl
theorem yc_L_taught : YC yL_taught cL_taught 6 (some .int) 2 := ⟨tsg_in (i := 33) (by decide +kernel) rfl, tsg_in (i := 828) (by decide +kernel) rfl, by decide +kernel⟩
theorem ys_L_taught : YS yL_taught := tsg_in (i := 827) (by decide +kernel) rfl
theorem yc_J0_length_8abf5 : YC yJ0_length_8abf5 cJ0_length_8abf5 1 (some .int) 0 := ⟨tsg_in (i := 46) (by decide +kernel) rfl, tsg_in (i := 832) (by decide +kernel) rfl, by decide +kernel⟩
theorem yv_J0_length_8abf5 : YV yJ0_length_8abf5 := ⟨tsg_in (i := 830) (by decide +kernel) rfl, tsg_in (i := 831) (by decide +kernel) rfl⟩
theorem yc_J0_coder_7d493 : YC yJ0_coder_7d493 cJ0_coder_7d493 1 (some .byte) 0 := ⟨tsg_in (i := 46) (by decide +kernel) rfl, tsg_in (i := 836) (by decide +kernel) rfl, by decide +kernel⟩
theorem yv_J0_coder_7d493 : YV yJ0_coder_7d493 := ⟨tsg_in (i := 834) (by decide +kernel) rfl, tsg_in (i := 835) (by decide +kernel) rfl⟩
theorem yc_J0_charAt_5068e : YC yJ0_charAt_5068e cJ0_charAt_5068e 2 (some .char) 1 := ⟨tsg_in (i := 46) (by decide +kernel) rfl, tsg_in (i := 842) (by decide +kernel) rfl, by decide +kernel⟩
theorem yv_J0_charAt_5068e : YV yJ0_charAt_5068e := ⟨tsg_in (i := 840) (by decide +kernel) rfl, tsg_in (i := 841) (by decide +kernel) rfl⟩
theorem yc_J0_isLatin1_aae02 : YC yJ0_isLatin1_aae02 cJ0_isLatin1_aae02 1 (some .boolean) 0 := ⟨tsg_in (i := 46) (by decide +kernel) rfl, tsg_in (i := 846) (by decide +kernel) rfl, by decide +kernel⟩
theorem yv_J0_isLatin1_aae02 : YV yJ0_isLatin1_aae02 := ⟨tsg_in (i := 844) (by decide +kernel) rfl, tsg_in (i := 845) (by decide +kernel) rfl⟩
theorem yc_J1_charAt_3b067 : YC yJ1_charAt_3b067 cJ1_charAt_3b067 2 (some .char) 2 := ⟨tsg_in (i := 54) (by decide +kernel) rfl, tsg_in (i := 849) (by decide +kernel) rfl, by decide +kernel⟩
theorem ys_J1_charAt_3b067 : YS yJ1_charAt_3b067 := tsg_in (i := 848) (by decide +kernel) rfl
theorem yc_J0_checkIndex_df160 : YC yJ0_checkIndex_df160 cJ0_checkIndex_df160 2 none 2 := ⟨tsg_in (i := 46) (by decide +kernel) rfl, tsg_in (i := 852) (by decide +kernel) rfl, by decide +kernel⟩
theorem ys_J0_checkIndex_df160 : YS yJ0_checkIndex_df160 := tsg_in (i := 851) (by decide +kernel) rfl
theorem yc_J3_checkIndex_8e157 : YC yJ3_checkIndex_8e157 cJ3_checkIndex_8e157 3 (some .int) 3 := ⟨tsg_in (i := 53) (by decide +kernel) rfl, tsg_in (i := 857) (by decide +kernel) rfl, by decide +kernel⟩
theorem ys_J3_checkIndex_8e157 : YS yJ3_checkIndex_8e157 := tsg_in (i := 856) (by decide +kernel) rfl
theorem yc_J2_charAt_3b067 : YC yJ2_charAt_3b067 cJ2_charAt_3b067 2 (some .char) 2 := ⟨tsg_in (i := 47) (by decide +kernel) rfl, tsg_in (i := 860) (by decide +kernel) rfl, by decide +kernel⟩
theorem ys_J2_charAt_3b067 : YS yJ2_charAt_3b067 := tsg_in (i := 859) (by decide +kernel) rfl
theorem yc_J2_checkIndex_2214a : YC yJ2_checkIndex_2214a cJ2_checkIndex_2214a 2 none 2 := ⟨tsg_in (i := 47) (by decide +kernel) rfl, tsg_in (i := 863) (by decide +kernel) rfl, by decide +kernel⟩
theorem ys_J2_checkIndex_2214a : YS yJ2_checkIndex_2214a := tsg_in (i := 862) (by decide +kernel) rfl
theorem yc_J2_length_9d52b : YC yJ2_length_9d52b cJ2_length_9d52b 1 (some .int) 1 := ⟨tsg_in (i := 47) (by decide +kernel) rfl, tsg_in (i := 866) (by decide +kernel) rfl, by decide +kernel⟩
theorem ys_J2_length_9d52b : YS yJ2_length_9d52b := tsg_in (i := 865) (by decide +kernel) rfl
theorem yc_J2_getChar_3b067 : YC yJ2_getChar_3b067 cJ2_getChar_3b067 2 (some .char) 2 := ⟨tsg_in (i := 47) (by decide +kernel) rfl, tsg_in (i := 870) (by decide +kernel) rfl, by decide +kernel⟩
theorem ys_J2_getChar_3b067 : YS yJ2_getChar_3b067 := tsg_in (i := 869) (by decide +kernel) rfl
theorem yc_X8_feed : YC yX8_feed cX8_feed 6 (some .int) 5 := ⟨tsg_in (i := 34) (by decide +kernel) rfl, tsg_in (i := 880) (by decide +kernel) rfl, by decide +kernel⟩
theorem yv_X8_feed : YV yX8_feed := ⟨tsg_in (i := 878) (by decide +kernel) rfl, tsg_in (i := 879) (by decide +kernel) rfl⟩
theorem yc_X6_append : YC yX6_append cX6_append 3 none 1 := ⟨tsg_in (i := 35) (by decide +kernel) rfl, tsg_in (i := 885) (by decide +kernel) rfl, by decide +kernel⟩
theorem yv_X6_append : YV yX6_append := ⟨tsg_in (i := 883) (by decide +kernel) rfl, tsg_in (i := 884) (by decide +kernel) rfl⟩
theorem yc_X8_trim : YC yX8_trim cX8_trim 2 (some .int) 1 := ⟨tsg_in (i := 34) (by decide +kernel) rfl, tsg_in (i := 889) (by decide +kernel) rfl, by decide +kernel⟩
theorem yv_X8_trim : YV yX8_trim := ⟨tsg_in (i := 887) (by decide +kernel) rfl, tsg_in (i := 888) (by decide +kernel) rfl⟩
theorem yc_X8_teach : YC yX8_teach cX8_teach 2 (some .int) 0 := ⟨tsg_in (i := 34) (by decide +kernel) rfl, tsg_in (i := 894) (by decide +kernel) rfl, by decide +kernel⟩
theorem yv_X8_teach : YV yX8_teach := ⟨tsg_in (i := 892) (by decide +kernel) rfl, tsg_in (i := 893) (by decide +kernel) rfl⟩
theorem yc_X3_read : YC yX3_read cX3_read 2 (some .int) 0 := ⟨tsg_in (i := 38) (by decide +kernel) rfl, tsg_in (i := 898) (by decide +kernel) rfl, by decide +kernel⟩
theorem yv_X3_read : YV yX3_read := ⟨tsg_in (i := 896) (by decide +kernel) rfl, tsg_in (i := 897) (by decide +kernel) rfl⟩
theorem yc_X7_scan : YC yX7_scan cX7_scan 3 none 0 := ⟨tsg_in (i := 39) (by decide +kernel) rfl, tsg_in (i := 902) (by decide +kernel) rfl, by decide +kernel⟩
theorem yv_X7_scan : YV yX7_scan := ⟨tsg_in (i := 900) (by decide +kernel) rfl, tsg_in (i := 901) (by decide +kernel) rfl⟩
theorem yc_X7_behindBlanks : YC yX7_behindBlanks cX7_behindBlanks 3 (some .int) 1 := ⟨tsg_in (i := 39) (by decide +kernel) rfl, tsg_in (i := 906) (by decide +kernel) rfl, by decide +kernel⟩
theorem yv_X7_behindBlanks : YV yX7_behindBlanks := ⟨tsg_in (i := 905) (by decide +kernel) rfl, tsg_in (i := 12) (by decide +kernel) rfl⟩
theorem yc_X6_signAt : YC yX6_signAt cX6_signAt 2 (some .int) 1 := ⟨tsg_in (i := 35) (by decide +kernel) rfl, tsg_in (i := 910) (by decide +kernel) rfl, by decide +kernel⟩
theorem yv_X6_signAt : YV yX6_signAt := ⟨tsg_in (i := 908) (by decide +kernel) rfl, tsg_in (i := 909) (by decide +kernel) rfl⟩
theorem yc_X7_scanToken : YC yX7_scanToken cX7_scanToken 3 (some .int) 1 := ⟨tsg_in (i := 39) (by decide +kernel) rfl, tsg_in (i := 914) (by decide +kernel) rfl, by decide +kernel⟩
theorem yv_X7_scanToken : YV yX7_scanToken := ⟨tsg_in (i := 913) (by decide +kernel) rfl, tsg_in (i := 13) (by decide +kernel) rfl⟩
theorem yc_X7_put : YC yX7_put cX7_put 6 (some .int) 4 := ⟨tsg_in (i := 39) (by decide +kernel) rfl, tsg_in (i := 920) (by decide +kernel) rfl, by decide +kernel⟩
theorem yv_X7_put : YV yX7_put := ⟨tsg_in (i := 919) (by decide +kernel) rfl, tsg_in (i := 14) (by decide +kernel) rfl⟩
theorem yc_X7_isLetter : YC yX7_isLetter cX7_isLetter 1 (some .boolean) 1 := ⟨tsg_in (i := 39) (by decide +kernel) rfl, tsg_in (i := 924) (by decide +kernel) rfl, by decide +kernel⟩
theorem ys_X7_isLetter : YS yX7_isLetter := tsg_in (i := 923) (by decide +kernel) rfl
theorem yc_X7_scanWord : YC yX7_scanWord cX7_scanWord 9 (some .int) 1 := ⟨tsg_in (i := 39) (by decide +kernel) rfl, tsg_in (i := 928) (by decide +kernel) rfl, by decide +kernel⟩
theorem yv_X7_scanWord : YV yX7_scanWord := ⟨tsg_in (i := 927) (by decide +kernel) rfl, tsg_in (i := 15) (by decide +kernel) rfl⟩
theorem yc_X7_isDigit : YC yX7_isDigit cX7_isDigit 1 (some .boolean) 1 := ⟨tsg_in (i := 39) (by decide +kernel) rfl, tsg_in (i := 931) (by decide +kernel) rfl, by decide +kernel⟩
theorem ys_X7_isDigit : YS yX7_isDigit := tsg_in (i := 930) (by decide +kernel) rfl
theorem yc_X1_lengthened : YC yX1_lengthened cX1_lengthened 3 (some .long) 2 := ⟨tsg_in (i := 41) (by decide +kernel) rfl, tsg_in (i := 934) (by decide +kernel) rfl, by decide +kernel⟩
theorem ys_X1_lengthened : YS yX1_lengthened := tsg_in (i := 933) (by decide +kernel) rfl
theorem yc_X7_scanNumber : YC yX7_scanNumber cX7_scanNumber 5 (some .int) 1 := ⟨tsg_in (i := 39) (by decide +kernel) rfl, tsg_in (i := 943) (by decide +kernel) rfl, by decide +kernel⟩
theorem yv_X7_scanNumber : YV yX7_scanNumber := ⟨tsg_in (i := 942) (by decide +kernel) rfl, tsg_in (i := 16) (by decide +kernel) rfl⟩
theorem yc_X7_scanSymbol : YC yX7_scanSymbol cX7_scanSymbol 5 (some .int) 2 := ⟨tsg_in (i := 39) (by decide +kernel) rfl, tsg_in (i := 950) (by decide +kernel) rfl, by decide +kernel⟩
theorem yv_X7_scanSymbol : YV yX7_scanSymbol := ⟨tsg_in (i := 949) (by decide +kernel) rfl, tsg_in (i := 17) (by decide +kernel) rfl⟩
theorem yc_X7_symbol : YC yX7_symbol cX7_symbol 1 (some (.object "ShadowRegistry$Kind")) 1 := ⟨tsg_in (i := 39) (by decide +kernel) rfl, tsg_in (i := 957) (by decide +kernel) rfl, by decide +kernel⟩
theorem ys_X7_symbol : YS yX7_symbol := tsg_in (i := 956) (by decide +kernel) rfl
theorem yc_X0_empty : YC yX0_empty cX0_empty 1 none 0 := ⟨tsg_in (i := 36) (by decide +kernel) rfl, tsg_in (i := 987) (by decide +kernel) rfl, by decide +kernel⟩
theorem yv_X0_empty : YV yX0_empty := ⟨tsg_in (i := 985) (by decide +kernel) rfl, tsg_in (i := 986) (by decide +kernel) rfl⟩
theorem yc_X7_startAt : YC yX7_startAt cX7_startAt 2 (some .int) 1 := ⟨tsg_in (i := 39) (by decide +kernel) rfl, tsg_in (i := 991) (by decide +kernel) rfl, by decide +kernel⟩
theorem yv_X7_startAt : YV yX7_startAt := ⟨tsg_in (i := 989) (by decide +kernel) rfl, tsg_in (i := 990) (by decide +kernel) rfl⟩
theorem yc_X7_kindAt : YC yX7_kindAt cX7_kindAt 2 (some (.object "ShadowRegistry$Kind")) 1 := ⟨tsg_in (i := 39) (by decide +kernel) rfl, tsg_in (i := 995) (by decide +kernel) rfl, by decide +kernel⟩
theorem yv_X7_kindAt : YV yX7_kindAt := ⟨tsg_in (i := 993) (by decide +kernel) rfl, tsg_in (i := 994) (by decide +kernel) rfl⟩
theorem yc_X3_houseLine : YC yX3_houseLine cX3_houseLine 10 none 0 := ⟨tsg_in (i := 38) (by decide +kernel) rfl, tsg_in (i := 1002) (by decide +kernel) rfl, by decide +kernel⟩
theorem yv_X3_houseLine : YV yX3_houseLine := ⟨tsg_in (i := 1001) (by decide +kernel) rfl, tsg_in (i := 18) (by decide +kernel) rfl⟩
theorem yc_X3_take : YC yX3_take cX3_take 4 (some .long) 1 := ⟨tsg_in (i := 38) (by decide +kernel) rfl, tsg_in (i := 1006) (by decide +kernel) rfl, by decide +kernel⟩
theorem yv_X3_take : YV yX3_take := ⟨tsg_in (i := 1005) (by decide +kernel) rfl, tsg_in (i := 19) (by decide +kernel) rfl⟩
theorem yc_X3_fail : YC yX3_fail cX3_fail 1 none 0 := ⟨tsg_in (i := 38) (by decide +kernel) rfl, tsg_in (i := 1010) (by decide +kernel) rfl, by decide +kernel⟩
theorem yv_X3_fail : YV yX3_fail := ⟨tsg_in (i := 1009) (by decide +kernel) rfl, tsg_in (i := 20) (by decide +kernel) rfl⟩
theorem yc_X7_valueAt : YC yX7_valueAt cX7_valueAt 2 (some .long) 1 := ⟨tsg_in (i := 39) (by decide +kernel) rfl, tsg_in (i := 1014) (by decide +kernel) rfl, by decide +kernel⟩
theorem yv_X7_valueAt : YV yX7_valueAt := ⟨tsg_in (i := 1012) (by decide +kernel) rfl, tsg_in (i := 1013) (by decide +kernel) rfl⟩
theorem yc_X0_houseNamed : YC yX0_houseNamed cX0_houseNamed 4 (some .int) 1 := ⟨tsg_in (i := 36) (by decide +kernel) rfl, tsg_in (i := 1019) (by decide +kernel) rfl, by decide +kernel⟩
theorem yv_X0_houseNamed : YV yX0_houseNamed := ⟨tsg_in (i := 1017) (by decide +kernel) rfl, tsg_in (i := 1018) (by decide +kernel) rfl⟩
theorem yc_X3_tell : YC yX3_tell cX3_tell 3 none 2 := ⟨tsg_in (i := 38) (by decide +kernel) rfl, tsg_in (i := 1023) (by decide +kernel) rfl, by decide +kernel⟩
theorem yv_X3_tell : YV yX3_tell := ⟨tsg_in (i := 1022) (by decide +kernel) rfl, tsg_in (i := 21) (by decide +kernel) rfl⟩
theorem yc_X0_isTaken : YC yX0_isTaken cX0_isTaken 4 (some .boolean) 1 := ⟨tsg_in (i := 36) (by decide +kernel) rfl, tsg_in (i := 1031) (by decide +kernel) rfl, by decide +kernel⟩
theorem yv_X0_isTaken : YV yX0_isTaken := ⟨tsg_in (i := 1029) (by decide +kernel) rfl, tsg_in (i := 1030) (by decide +kernel) rfl⟩
theorem yc_X0_addHouse : YC yX0_addHouse cX0_addHouse 5 none 3 := ⟨tsg_in (i := 36) (by decide +kernel) rfl, tsg_in (i := 1038) (by decide +kernel) rfl, by decide +kernel⟩
theorem yv_X0_addHouse : YV yX0_addHouse := ⟨tsg_in (i := 1036) (by decide +kernel) rfl, tsg_in (i := 1037) (by decide +kernel) rfl⟩
theorem yc_X3_lawLine : YC yX3_lawLine cX3_lawLine 2 none 0 := ⟨tsg_in (i := 38) (by decide +kernel) rfl, tsg_in (i := 1042) (by decide +kernel) rfl, by decide +kernel⟩
theorem yv_X3_lawLine : YV yX3_lawLine := ⟨tsg_in (i := 1041) (by decide +kernel) rfl, tsg_in (i := 22) (by decide +kernel) rfl⟩
theorem yc_X3_order : YC yX3_order cX3_order 1 none 0 := ⟨tsg_in (i := 38) (by decide +kernel) rfl, tsg_in (i := 1048) (by decide +kernel) rfl, by decide +kernel⟩
theorem yv_X3_order : YV yX3_order := ⟨tsg_in (i := 1047) (by decide +kernel) rfl, tsg_in (i := 23) (by decide +kernel) rfl⟩
theorem yc_X3_knownHouse : YC yX3_knownHouse cX3_knownHouse 3 (some .int) 0 := ⟨tsg_in (i := 38) (by decide +kernel) rfl, tsg_in (i := 1054) (by decide +kernel) rfl, by decide +kernel⟩
theorem yv_X3_knownHouse : YV yX3_knownHouse := ⟨tsg_in (i := 1053) (by decide +kernel) rfl, tsg_in (i := 24) (by decide +kernel) rfl⟩
theorem yc_X3_sum : YC yX3_sum cX3_sum 4 none 1 := ⟨tsg_in (i := 38) (by decide +kernel) rfl, tsg_in (i := 1060) (by decide +kernel) rfl, by decide +kernel⟩
theorem yv_X3_sum : YV yX3_sum := ⟨tsg_in (i := 1059) (by decide +kernel) rfl, tsg_in (i := 25) (by decide +kernel) rfl⟩
theorem yc_X3_product : YC yX3_product cX3_product 4 none 1 := ⟨tsg_in (i := 38) (by decide +kernel) rfl, tsg_in (i := 1064) (by decide +kernel) rfl, by decide +kernel⟩
theorem yv_X3_product : YV yX3_product := ⟨tsg_in (i := 1063) (by decide +kernel) rfl, tsg_in (i := 26) (by decide +kernel) rfl⟩
theorem yc_X3_value : YC yX3_value cX3_value 3 none 1 := ⟨tsg_in (i := 38) (by decide +kernel) rfl, tsg_in (i := 1068) (by decide +kernel) rfl, by decide +kernel⟩
theorem yv_X3_value : YV yX3_value := ⟨tsg_in (i := 1067) (by decide +kernel) rfl, tsg_in (i := 27) (by decide +kernel) rfl⟩
theorem yc_X0_addStep : YC yX0_addStep cX0_addStep 4 none 3 := ⟨tsg_in (i := 36) (by decide +kernel) rfl, tsg_in (i := 1072) (by decide +kernel) rfl, by decide +kernel⟩
theorem yv_X0_addStep : YV yX0_addStep := ⟨tsg_in (i := 1070) (by decide +kernel) rfl, tsg_in (i := 1071) (by decide +kernel) rfl⟩
theorem yc_X3_goesDeeper : YC yX3_goesDeeper cX3_goesDeeper 3 (some .boolean) 2 := ⟨tsg_in (i := 38) (by decide +kernel) rfl, tsg_in (i := 1089) (by decide +kernel) rfl, by decide +kernel⟩
theorem yv_X3_goesDeeper : YV yX3_goesDeeper := ⟨tsg_in (i := 1088) (by decide +kernel) rfl, tsg_in (i := 28) (by decide +kernel) rfl⟩
theorem yc_X3_choice : YC yX3_choice cX3_choice 3 none 1 := ⟨tsg_in (i := 38) (by decide +kernel) rfl, tsg_in (i := 1099) (by decide +kernel) rfl, by decide +kernel⟩
theorem yv_X3_choice : YV yX3_choice := ⟨tsg_in (i := 1098) (by decide +kernel) rfl, tsg_in (i := 29) (by decide +kernel) rfl⟩
theorem yc_X3_test : YC yX3_test cX3_test 3 none 1 := ⟨tsg_in (i := 38) (by decide +kernel) rfl, tsg_in (i := 1117) (by decide +kernel) rfl, by decide +kernel⟩
theorem yv_X3_test : YV yX3_test := ⟨tsg_in (i := 1116) (by decide +kernel) rfl, tsg_in (i := 30) (by decide +kernel) rfl⟩
theorem yc_X3_both : YC yX3_both cX3_both 3 none 1 := ⟨tsg_in (i := 38) (by decide +kernel) rfl, tsg_in (i := 1121) (by decide +kernel) rfl, by decide +kernel⟩
theorem yv_X3_both : YV yX3_both := ⟨tsg_in (i := 1120) (by decide +kernel) rfl, tsg_in (i := 31) (by decide +kernel) rfl⟩
theorem yc_X3_single : YC yX3_single cX3_single 3 none 1 := ⟨tsg_in (i := 38) (by decide +kernel) rfl, tsg_in (i := 1125) (by decide +kernel) rfl, by decide +kernel⟩
theorem yv_X3_single : YV yX3_single := ⟨tsg_in (i := 1124) (by decide +kernel) rfl, tsg_in (i := 32) (by decide +kernel) rfl⟩
theorem yc_X3_comparisonOp : YC yX3_comparisonOp cX3_comparisonOp 1 (some .int) 1 := ⟨tsg_in (i := 38) (by decide +kernel) rfl, tsg_in (i := 1136) (by decide +kernel) rfl, by decide +kernel⟩
theorem ys_X3_comparisonOp : YS yX3_comparisonOp := tsg_in (i := 1135) (by decide +kernel) rfl
theorem yc_X0_addLaw : YC yX0_addLaw cX0_addLaw 3 none 1 := ⟨tsg_in (i := 36) (by decide +kernel) rfl, tsg_in (i := 1149) (by decide +kernel) rfl, by decide +kernel⟩
theorem yv_X0_addLaw : YV yX0_addLaw := ⟨tsg_in (i := 1147) (by decide +kernel) rfl, tsg_in (i := 1148) (by decide +kernel) rfl⟩
theorem yc_X2_become : YC yX2_become cX2_become 2 none 1 := ⟨tsg_in (i := 37) (by decide +kernel) rfl, tsg_in (i := 1153) (by decide +kernel) rfl, by decide +kernel⟩
theorem yv_X2_become : YV yX2_become := ⟨tsg_in (i := 1151) (by decide +kernel) rfl, tsg_in (i := 1152) (by decide +kernel) rfl⟩
theorem yc_X0_become : YC yX0_become cX0_become 4 none 1 := ⟨tsg_in (i := 36) (by decide +kernel) rfl, tsg_in (i := 1158) (by decide +kernel) rfl, by decide +kernel⟩
theorem yv_X0_become : YV yX0_become := ⟨tsg_in (i := 1156) (by decide +kernel) rfl, tsg_in (i := 1157) (by decide +kernel) rfl⟩
theorem yc_X5_beginWith : YC yX5_beginWith cX5_beginWith 4 none 1 := ⟨tsg_in (i := 43) (by decide +kernel) rfl, tsg_in (i := 1167) (by decide +kernel) rfl, by decide +kernel⟩
theorem yv_X5_beginWith : YV yX5_beginWith := ⟨tsg_in (i := 1165) (by decide +kernel) rfl, tsg_in (i := 1166) (by decide +kernel) rfl⟩
theorem ys_L_told : YS yL_told := tsg_in (i := 1170) (by decide +kernel) rfl
theorem yc_X9_init : YC yX9_init cX9_init 1 none 0 := ⟨tsg_in (i := 48) (by decide +kernel) rfl, tsg_in (i := 1176) (by decide +kernel) rfl, by decide +kernel⟩
theorem yi_X9_init : YI yX9_init := ⟨tsg_in (i := 1175) (by decide +kernel) rfl, rfl⟩
theorem yc_X9_with : YC yX9_with cX9_with 4 (some (.array (.array .int))) 2 := ⟨tsg_in (i := 48) (by decide +kernel) rfl, tsg_in (i := 1214) (by decide +kernel) rfl, by decide +kernel⟩
theorem ys_X9_with : YS yX9_with := tsg_in (i := 1213) (by decide +kernel) rfl
theorem yc_J4_append_15ec4 : YC yJ4_append_15ec4 cJ4_append_15ec4 2 (some (.object "java/lang/StringBuilder")) 1 := ⟨tsg_in (i := 45) (by decide +kernel) rfl, tsg_in (i := 1219) (by decide +kernel) rfl, by decide +kernel⟩
theorem yv_J4_append_15ec4 : YV yJ4_append_15ec4 := ⟨tsg_in (i := 1217) (by decide +kernel) rfl, tsg_in (i := 1218) (by decide +kernel) rfl⟩
theorem yc_J5_append_cf1ce : YC yJ5_append_cf1ce cJ5_append_cf1ce 3 (some (.object "java/lang/AbstractStringBuilder")) 1 := ⟨tsg_in (i := 44) (by decide +kernel) rfl, tsg_in (i := 1223) (by decide +kernel) rfl, by decide +kernel⟩
theorem yc_J5_appendNull_278bc : YC yJ5_appendNull_278bc cJ5_appendNull_278bc 3 (some (.object "java/lang/AbstractStringBuilder")) 0 := ⟨tsg_in (i := 44) (by decide +kernel) rfl, tsg_in (i := 1227) (by decide +kernel) rfl, by decide +kernel⟩
theorem yc_J5_ensureCapacityInternal_d00df : YC yJ5_ensureCapacityInternal_d00df cJ5_ensureCapacityInternal_d00df 3 none 1 := ⟨tsg_in (i := 44) (by decide +kernel) rfl, tsg_in (i := 1231) (by decide +kernel) rfl, by decide +kernel⟩
theorem yc_J5_newCapacity_0f7a4 : YC yJ5_newCapacity_0f7a4 cJ5_newCapacity_0f7a4 6 (some .int) 1 := ⟨tsg_in (i := 44) (by decide +kernel) rfl, tsg_in (i := 1235) (by decide +kernel) rfl, by decide +kernel⟩
theorem yc_J8_newLength_cabcc : YC yJ8_newLength_cabcc cJ8_newLength_cabcc 4 (some .int) 3 := ⟨tsg_in (i := 49) (by decide +kernel) rfl, tsg_in (i := 1238) (by decide +kernel) rfl, by decide +kernel⟩
theorem ys_J8_newLength_cabcc : YS yJ8_newLength_cabcc := tsg_in (i := 1237) (by decide +kernel) rfl
theorem yc_J8_hugeLength_7cf53 : YC yJ8_hugeLength_7cf53 cJ8_hugeLength_7cf53 3 (some .int) 2 := ⟨tsg_in (i := 49) (by decide +kernel) rfl, tsg_in (i := 1243) (by decide +kernel) rfl, by decide +kernel⟩
theorem ys_J8_hugeLength_7cf53 : YS yJ8_hugeLength_7cf53 := tsg_in (i := 1242) (by decide +kernel) rfl
theorem yc_J7_copyOf_9075b : YC yJ7_copyOf_9075b cJ7_copyOf_9075b 3 (some (.array .byte)) 2 := ⟨tsg_in (i := 51) (by decide +kernel) rfl, tsg_in (i := 1247) (by decide +kernel) rfl, by decide +kernel⟩
theorem ys_J7_copyOf_9075b : YS yJ7_copyOf_9075b := tsg_in (i := 1246) (by decide +kernel) rfl
theorem yc_J5_isLatin1_aae02 : YC yJ5_isLatin1_aae02 cJ5_isLatin1_aae02 1 (some .boolean) 0 := ⟨tsg_in (i := 44) (by decide +kernel) rfl, tsg_in (i := 1261) (by decide +kernel) rfl, by decide +kernel⟩
theorem yc_J2_putCharsAt_cd4e5 : YC yJ2_putCharsAt_cd4e5 cJ2_putCharsAt_cd4e5 7 (some .int) 6 := ⟨tsg_in (i := 47) (by decide +kernel) rfl, tsg_in (i := 1265) (by decide +kernel) rfl, by decide +kernel⟩
theorem ys_J2_putCharsAt_cd4e5 : YS yJ2_putCharsAt_cd4e5 := tsg_in (i := 1264) (by decide +kernel) rfl
theorem yc_J2_checkBoundsBeginEnd_d044e : YC yJ2_checkBoundsBeginEnd_d044e cJ2_checkBoundsBeginEnd_d044e 3 none 3 := ⟨tsg_in (i := 47) (by decide +kernel) rfl, tsg_in (i := 1268) (by decide +kernel) rfl, by decide +kernel⟩
theorem ys_J2_checkBoundsBeginEnd_d044e : YS yJ2_checkBoundsBeginEnd_d044e := tsg_in (i := 1267) (by decide +kernel) rfl
theorem yc_J0_checkBoundsBeginEnd_23922 : YC yJ0_checkBoundsBeginEnd_23922 cJ0_checkBoundsBeginEnd_23922 3 none 3 := ⟨tsg_in (i := 46) (by decide +kernel) rfl, tsg_in (i := 1271) (by decide +kernel) rfl, by decide +kernel⟩
theorem ys_J0_checkBoundsBeginEnd_23922 : YS yJ0_checkBoundsBeginEnd_23922 := tsg_in (i := 1270) (by decide +kernel) rfl
theorem yc_J3_checkFromToIndex_8c36e : YC yJ3_checkFromToIndex_8c36e cJ3_checkFromToIndex_8c36e 4 (some .int) 4 := ⟨tsg_in (i := 53) (by decide +kernel) rfl, tsg_in (i := 1274) (by decide +kernel) rfl, by decide +kernel⟩
theorem ys_J3_checkFromToIndex_8c36e : YS yJ3_checkFromToIndex_8c36e := tsg_in (i := 1273) (by decide +kernel) rfl
theorem yc_J2_putChar_b72d1 : YC yJ2_putChar_b72d1 cJ2_putChar_b72d1 3 none 3 := ⟨tsg_in (i := 47) (by decide +kernel) rfl, tsg_in (i := 1277) (by decide +kernel) rfl, by decide +kernel⟩
theorem ys_J2_putChar_b72d1 : YS yJ2_putChar_b72d1 := tsg_in (i := 1276) (by decide +kernel) rfl
theorem yc_J5_putStringAt_47b60 : YC yJ5_putStringAt_47b60 cJ5_putStringAt_47b60 3 none 2 := ⟨tsg_in (i := 44) (by decide +kernel) rfl, tsg_in (i := 1282) (by decide +kernel) rfl, by decide +kernel⟩
theorem yc_J5_inflateIfNeededFor_a7421 : YC yJ5_inflateIfNeededFor_a7421 cJ5_inflateIfNeededFor_a7421 2 none 1 := ⟨tsg_in (i := 44) (by decide +kernel) rfl, tsg_in (i := 1286) (by decide +kernel) rfl, by decide +kernel⟩
theorem yc_J5_inflate_da8c8 : YC yJ5_inflate_da8c8 cJ5_inflate_da8c8 2 none 0 := ⟨tsg_in (i := 44) (by decide +kernel) rfl, tsg_in (i := 1291) (by decide +kernel) rfl, by decide +kernel⟩
theorem yc_J2_newBytesFor_77867 : YC yJ2_newBytesFor_77867 cJ2_newBytesFor_77867 1 (some (.array .byte)) 1 := ⟨tsg_in (i := 47) (by decide +kernel) rfl, tsg_in (i := 1294) (by decide +kernel) rfl, by decide +kernel⟩
theorem ys_J2_newBytesFor_77867 : YS yJ2_newBytesFor_77867 := tsg_in (i := 1293) (by decide +kernel) rfl
theorem yc_J2_newBytesLength_0f7a4 : YC yJ2_newBytesLength_0f7a4 cJ2_newBytesLength_0f7a4 1 (some .int) 1 := ⟨tsg_in (i := 47) (by decide +kernel) rfl, tsg_in (i := 1297) (by decide +kernel) rfl, by decide +kernel⟩
theorem ys_J2_newBytesLength_0f7a4 : YS yJ2_newBytesLength_0f7a4 := tsg_in (i := 1296) (by decide +kernel) rfl
theorem yc_J1_inflate_0e8fd : YC yJ1_inflate_0e8fd cJ1_inflate_0e8fd 5 none 5 := ⟨tsg_in (i := 54) (by decide +kernel) rfl, tsg_in (i := 1301) (by decide +kernel) rfl, by decide +kernel⟩
theorem ys_J1_inflate_0e8fd : YS yJ1_inflate_0e8fd := tsg_in (i := 1300) (by decide +kernel) rfl
theorem yc_J2_inflate_0e8fd : YC yJ2_inflate_0e8fd cJ2_inflate_0e8fd 6 none 5 := ⟨tsg_in (i := 47) (by decide +kernel) rfl, tsg_in (i := 1304) (by decide +kernel) rfl, by decide +kernel⟩
theorem ys_J2_inflate_0e8fd : YS yJ2_inflate_0e8fd := tsg_in (i := 1303) (by decide +kernel) rfl
theorem yc_J2_checkBoundsOffCount_d044e : YC yJ2_checkBoundsOffCount_d044e cJ2_checkBoundsOffCount_d044e 3 none 3 := ⟨tsg_in (i := 47) (by decide +kernel) rfl, tsg_in (i := 1307) (by decide +kernel) rfl, by decide +kernel⟩
theorem ys_J2_checkBoundsOffCount_d044e : YS yJ2_checkBoundsOffCount_d044e := tsg_in (i := 1306) (by decide +kernel) rfl
theorem yc_J0_checkBoundsOffCount_cabcc : YC yJ0_checkBoundsOffCount_cabcc cJ0_checkBoundsOffCount_cabcc 3 (some .int) 3 := ⟨tsg_in (i := 46) (by decide +kernel) rfl, tsg_in (i := 1310) (by decide +kernel) rfl, by decide +kernel⟩
theorem ys_J0_checkBoundsOffCount_cabcc : YS yJ0_checkBoundsOffCount_cabcc := tsg_in (i := 1309) (by decide +kernel) rfl
theorem yc_J3_checkFromIndexSize_8c36e : YC yJ3_checkFromIndexSize_8c36e cJ3_checkFromIndexSize_8c36e 4 (some .int) 4 := ⟨tsg_in (i := 53) (by decide +kernel) rfl, tsg_in (i := 1313) (by decide +kernel) rfl, by decide +kernel⟩
theorem ys_J3_checkFromIndexSize_8c36e : YS yJ3_checkFromIndexSize_8c36e := tsg_in (i := 1312) (by decide +kernel) rfl
theorem yc_J0_getBytes_840e7 : YC yJ0_getBytes_840e7 cJ0_getBytes_840e7 4 none 3 := ⟨tsg_in (i := 46) (by decide +kernel) rfl, tsg_in (i := 1317) (by decide +kernel) rfl, by decide +kernel⟩
theorem yv_J0_getBytes_840e7 : YV yJ0_getBytes_840e7 := ⟨tsg_in (i := 1315) (by decide +kernel) rfl, tsg_in (i := 1316) (by decide +kernel) rfl⟩
theorem yc_J4_append_bf812 : YC yJ4_append_bf812 cJ4_append_bf812 2 (some (.object "java/lang/StringBuilder")) 1 := ⟨tsg_in (i := 45) (by decide +kernel) rfl, tsg_in (i := 1323) (by decide +kernel) rfl, by decide +kernel⟩
theorem yv_J4_append_bf812 : YV yJ4_append_bf812 := ⟨tsg_in (i := 1321) (by decide +kernel) rfl, tsg_in (i := 1322) (by decide +kernel) rfl⟩
theorem yc_J5_append_c97b9 : YC yJ5_append_c97b9 cJ5_append_c97b9 4 (some (.object "java/lang/AbstractStringBuilder")) 1 := ⟨tsg_in (i := 44) (by decide +kernel) rfl, tsg_in (i := 1326) (by decide +kernel) rfl, by decide +kernel⟩
theorem yc_J6_stringSize_0f7a4 : YC yJ6_stringSize_0f7a4 cJ6_stringSize_0f7a4 4 (some .int) 1 := ⟨tsg_in (i := 55) (by decide +kernel) rfl, tsg_in (i := 1329) (by decide +kernel) rfl, by decide +kernel⟩
theorem ys_J6_stringSize_0f7a4 : YS yJ6_stringSize_0f7a4 := tsg_in (i := 1328) (by decide +kernel) rfl
theorem yc_J6_getChars_ba4f3 : YC yJ6_getChars_ba4f3 cJ6_getChars_ba4f3 7 (some .int) 3 := ⟨tsg_in (i := 55) (by decide +kernel) rfl, tsg_in (i := 1332) (by decide +kernel) rfl, by decide +kernel⟩
theorem ys_J6_getChars_ba4f3 : YS yJ6_getChars_ba4f3 := tsg_in (i := 1331) (by decide +kernel) rfl
theorem yc_J2_getChars_46870 : YC yJ2_getChars_46870 cJ2_getChars_46870 5 (some .int) 4 := ⟨tsg_in (i := 47) (by decide +kernel) rfl, tsg_in (i := 1339) (by decide +kernel) rfl, by decide +kernel⟩
theorem ys_J2_getChars_46870 : YS yJ2_getChars_46870 := tsg_in (i := 1338) (by decide +kernel) rfl
theorem yc_J2_getChars_ba4f3 : YC yJ2_getChars_ba4f3 cJ2_getChars_ba4f3 7 (some .int) 3 := ⟨tsg_in (i := 47) (by decide +kernel) rfl, tsg_in (i := 1342) (by decide +kernel) rfl, by decide +kernel⟩
theorem ys_J2_getChars_ba4f3 : YS yJ2_getChars_ba4f3 := tsg_in (i := 1341) (by decide +kernel) rfl
theorem yc_L_sum : YC yL_sum cL_sum 5 (some (.object "ShadowRegistryLaw$Tree")) 3 := ⟨tsg_in (i := 33) (by decide +kernel) rfl, tsg_in (i := 1351) (by decide +kernel) rfl, by decide +kernel⟩
theorem ys_L_sum : YS yL_sum := tsg_in (i := 1350) (by decide +kernel) rfl
theorem yc_X10_init : YC yX10_init cX10_init 1 none 0 := ⟨tsg_in (i := 56) (by decide +kernel) rfl, tsg_in (i := 1354) (by decide +kernel) rfl, by decide +kernel⟩
theorem yi_X10_init : YI yX10_init := ⟨tsg_in (i := 1353) (by decide +kernel) rfl, rfl⟩
theorem yc_L_test : YC yL_test cL_test 5 (some (.object "ShadowRegistryLaw$Tree")) 3 := ⟨tsg_in (i := 33) (by decide +kernel) rfl, tsg_in (i := 1381) (by decide +kernel) rfl, by decide +kernel⟩
theorem ys_L_test : YS yL_test := tsg_in (i := 1380) (by decide +kernel) rfl
theorem yv_X10_text : YV yX10_text := ⟨tsg_in (i := 1388) (by decide +kernel) rfl, tsg_in (i := 1389) (by decide +kernel) rfl⟩
theorem yc_J4_init_da8c8 : YC yJ4_init_da8c8 cJ4_init_da8c8 1 none 0 := ⟨tsg_in (i := 45) (by decide +kernel) rfl, tsg_in (i := 1414) (by decide +kernel) rfl, by decide +kernel⟩
theorem yi_J4_init_da8c8 : YI yJ4_init_da8c8 := ⟨tsg_in (i := 1413) (by decide +kernel) rfl, rfl⟩
theorem yc_J5_init_d00df : YC yJ5_init_d00df cJ5_init_d00df 2 none 1 := ⟨tsg_in (i := 44) (by decide +kernel) rfl, tsg_in (i := 1417) (by decide +kernel) rfl, by decide +kernel⟩
theorem yi_J5_init_d00df : YI yJ5_init_d00df := ⟨tsg_in (i := 1416) (by decide +kernel) rfl, rfl⟩
theorem yc_J4_toString_0e30d : YC yJ4_toString_0e30d cJ4_toString_0e30d 1 (some (.object "java/lang/String")) 0 := ⟨tsg_in (i := 45) (by decide +kernel) rfl, tsg_in (i := 1436) (by decide +kernel) rfl, by decide +kernel⟩
theorem yv_J4_toString_0e30d : YV yJ4_toString_0e30d := ⟨tsg_in (i := 1434) (by decide +kernel) rfl, tsg_in (i := 1435) (by decide +kernel) rfl⟩
theorem yc_J0_init_81219 : YC yJ0_init_81219 cJ0_init_81219 2 none 1 := ⟨tsg_in (i := 46) (by decide +kernel) rfl, tsg_in (i := 1441) (by decide +kernel) rfl, by decide +kernel⟩
theorem yi_J0_init_81219 : YI yJ0_init_81219 := ⟨tsg_in (i := 1440) (by decide +kernel) rfl, rfl⟩
theorem yc_J0_init_db425 : YC yJ0_init_db425 cJ0_init_db425 5 none 2 := ⟨tsg_in (i := 46) (by decide +kernel) rfl, tsg_in (i := 1444) (by decide +kernel) rfl, by decide +kernel⟩
theorem yi_J0_init_db425 : YI yJ0_init_db425 := ⟨tsg_in (i := 1443) (by decide +kernel) rfl, rfl⟩
theorem yc_J5_getValue_6d5f1 : YC yJ5_getValue_6d5f1 cJ5_getValue_6d5f1 1 (some (.array .byte)) 0 := ⟨tsg_in (i := 44) (by decide +kernel) rfl, tsg_in (i := 1450) (by decide +kernel) rfl, by decide +kernel⟩
theorem yc_J4_length_8abf5 : YC yJ4_length_8abf5 cJ4_length_8abf5 1 (some .int) 0 := ⟨tsg_in (i := 45) (by decide +kernel) rfl, tsg_in (i := 1456) (by decide +kernel) rfl, by decide +kernel⟩
theorem yc_J5_length_8abf5 : YC yJ5_length_8abf5 cJ5_length_8abf5 1 (some .int) 0 := ⟨tsg_in (i := 44) (by decide +kernel) rfl, tsg_in (i := 1458) (by decide +kernel) rfl, by decide +kernel⟩
theorem yc_J7_copyOfRange_39247 : YC yJ7_copyOfRange_39247 cJ7_copyOfRange_39247 3 (some (.array .byte)) 3 := ⟨tsg_in (i := 51) (by decide +kernel) rfl, tsg_in (i := 1462) (by decide +kernel) rfl, by decide +kernel⟩
theorem ys_J7_copyOfRange_39247 : YS yJ7_copyOfRange_39247 := tsg_in (i := 1461) (by decide +kernel) rfl
theorem yc_J7_copyOfRangeByte_39247 : YC yJ7_copyOfRangeByte_39247 cJ7_copyOfRangeByte_39247 5 (some (.array .byte)) 3 := ⟨tsg_in (i := 51) (by decide +kernel) rfl, tsg_in (i := 1465) (by decide +kernel) rfl, by decide +kernel⟩
theorem ys_J7_copyOfRangeByte_39247 : YS yJ7_copyOfRangeByte_39247 := tsg_in (i := 1464) (by decide +kernel) rfl
theorem yc_J7_checkLength_df160 : YC yJ7_checkLength_df160 cJ7_checkLength_df160 2 none 2 := ⟨tsg_in (i := 51) (by decide +kernel) rfl, tsg_in (i := 1468) (by decide +kernel) rfl, by decide +kernel⟩
theorem ys_J7_checkLength_df160 : YS yJ7_checkLength_df160 := tsg_in (i := 1467) (by decide +kernel) rfl
theorem yc_J2_compress_39247 : YC yJ2_compress_39247 cJ2_compress_39247 6 (some (.array .byte)) 3 := ⟨tsg_in (i := 47) (by decide +kernel) rfl, tsg_in (i := 1471) (by decide +kernel) rfl, by decide +kernel⟩
theorem ys_J2_compress_39247 : YS yJ2_compress_39247 := tsg_in (i := 1470) (by decide +kernel) rfl
theorem yc_J2_compress_5af95 : YC yJ2_compress_5af95 cJ2_compress_5af95 7 (some .int) 5 := ⟨tsg_in (i := 47) (by decide +kernel) rfl, tsg_in (i := 1474) (by decide +kernel) rfl, by decide +kernel⟩
theorem ys_J2_compress_5af95 : YS yJ2_compress_5af95 := tsg_in (i := 1473) (by decide +kernel) rfl
theorem yc_J2_coderFromArrayLen_85cad : YC yJ2_coderFromArrayLen_85cad cJ2_coderFromArrayLen_85cad 2 (some .byte) 2 := ⟨tsg_in (i := 47) (by decide +kernel) rfl, tsg_in (i := 1478) (by decide +kernel) rfl, by decide +kernel⟩
theorem ys_J2_coderFromArrayLen_85cad : YS yJ2_coderFromArrayLen_85cad := tsg_in (i := 1477) (by decide +kernel) rfl
theorem yc_L_act : YC yL_act cL_act 9 (some .boolean) 3 := ⟨tsg_in (i := 33) (by decide +kernel) rfl, tsg_in (i := 1513) (by decide +kernel) rfl, by decide +kernel⟩
theorem ys_L_act : YS yL_act := tsg_in (i := 1512) (by decide +kernel) rfl
theorem yc_X8_move : YC yX8_move cX8_move 4 (some .int) 2 := ⟨tsg_in (i := 34) (by decide +kernel) rfl, tsg_in (i := 1518) (by decide +kernel) rfl, by decide +kernel⟩
theorem yv_X8_move : YV yX8_move := ⟨tsg_in (i := 1516) (by decide +kernel) rfl, tsg_in (i := 1517) (by decide +kernel) rfl⟩
theorem yc_X5_givePlace : YC yX5_givePlace cX5_givePlace 3 none 2 := ⟨tsg_in (i := 43) (by decide +kernel) rfl, tsg_in (i := 1524) (by decide +kernel) rfl, by decide +kernel⟩
theorem yv_X5_givePlace : YV yX5_givePlace := ⟨tsg_in (i := 1522) (by decide +kernel) rfl, tsg_in (i := 1523) (by decide +kernel) rfl⟩
theorem lm_L_162 : LkM RL 162 yX8_init := tsg_in (i := 65) (by decide +kernel) rfl
theorem ln_X8_11 : LkN RX8 11 yX6_init := ⟨"ShadowRegistry", nws_in (i := 73) (by decide +kernel) rfl⟩
theorem lm_X8_18 : LkM RX8 18 yX0_init := tsg_in (i := 89) (by decide +kernel) rfl
theorem ln_X0_37 : LkN RX0 37 yX2_init := ⟨"ShadowRegistry", nws_in (i := 96) (by decide +kernel) rfl⟩
theorem lm_X8_27 : LkM RX8 27 yX7_init := tsg_in (i := 179) (by decide +kernel) rfl
theorem lm_X8_30 : LkM RX8 30 yX3_init := tsg_in (i := 201) (by decide +kernel) rfl
theorem ln_X3_11 : LkN RX3 11 yX2_init := ⟨"ShadowRegistry", nws_in (i := 206) (by decide +kernel) rfl⟩
theorem lm_X8_42 : LkM RX8 42 yX4_init := tsg_in (i := 240) (by decide +kernel) rfl
theorem ln_X8_51 : LkN RX8 51 yX5_init := ⟨"ShadowRegistry", nws_in (i := 256) (by decide +kernel) rfl⟩
theorem lm_L_171 : LkM RL 171 yX8_houses := tsg_in (i := 325) (by decide +kernel) rfl
theorem lm_L_240 : LkM RL 240 yX8_allHoursLost := tsg_in (i := 329) (by decide +kernel) rfl
theorem lm_L_243 : LkM RL 243 yX8_lightHouses := tsg_in (i := 333) (by decide +kernel) rfl
theorem lm_X8_110 : LkM RX8 110 yX5_lost := tsg_in (i := 337) (by decide +kernel) rfl
theorem lm_X5_83 : LkM RX5 83 yX5_hoursDark := tsg_in (i := 341) (by decide +kernel) rfl
theorem lm_X5_70 : LkM RX5 70 yX5_has := tsg_in (i := 345) (by decide +kernel) rfl
theorem lm_X5_86 : LkM RX5 86 yJ6_bitCount_0f7a4 := tsg_in (i := 349) (by decide +kernel) rfl
theorem lm_L_231 : LkM RL 231 yX8_worstHouse := tsg_in (i := 355) (by decide +kernel) rfl
theorem lm_L_234 : LkM RL 234 yX8_darkestWall := tsg_in (i := 426) (by decide +kernel) rfl
theorem lm_X8_116 : LkM RX8 116 yX5_cast := tsg_in (i := 430) (by decide +kernel) rfl
theorem lm_L_208 : LkM RL 208 yX8_placeOf := tsg_in (i := 434) (by decide +kernel) rfl
theorem lm_X8_119 : LkM RX8 119 yX8_checkHouse := tsg_in (i := 438) (by decide +kernel) rfl
theorem lm_X8_225 : LkM RX8 225 yX5_has := tsg_in (i := 442) (by decide +kernel) rfl
theorem lm_X8_122 : LkM RX8 122 yX5_place := tsg_in (i := 459) (by decide +kernel) rfl
theorem lm_L_198 : LkM RL 198 yX8_heightOf := tsg_in (i := 463) (by decide +kernel) rfl
theorem lm_X8_125 : LkM RX8 125 yX5_height := tsg_in (i := 467) (by decide +kernel) rfl
theorem lm_L_228 : LkM RL 228 yX8_hoursLost := tsg_in (i := 471) (by decide +kernel) rfl
theorem lm_L_225 : LkM RL 225 yX8_castBy := tsg_in (i := 475) (by decide +kernel) rfl
theorem lm_L_185 : LkM RL 185 yX8_hasCurfew := tsg_in (i := 479) (by decide +kernel) rfl
theorem lm_X8_128 : LkM RX8 128 yX5_firstLow := tsg_in (i := 483) (by decide +kernel) rfl
theorem lm_L_189 : LkM RL 189 yX8_curfewFrom := tsg_in (i := 487) (by decide +kernel) rfl
theorem lm_X8_131 : LkM RX8 131 yX8_checkCurfew := tsg_in (i := 491) (by decide +kernel) rfl
