/-! What the tables and the premises give at the law's entry. -/
def nAt : List Cond := flatC (Jvm.Cond.and given_1 narrow_1)
theorem n_get {i : Nat} {c : Cond} {args : Array Value} {s : State} (h : nAt[i]? = some c) (hgv : (Jvm.Cond.and given_1 narrow_1).before args s = true) : c.before args s = true := flat_of_before _ hgv _ (List.mem_of_getElem? h)
theorem va_OF.inj {o n d : String} {v v2 : Value} {t : Nat} {A : Nat → Prop} {U : State} {H : Heap} (h : va_OF o n d v t A U H) (h2 : va_OF o n d v2 t A U H) : v = v2 := by
  obtain ⟨c, k, i, f, cell, a1, a2, a3, a4, a5, a6⟩ := h
  obtain ⟨c', k', i', f', cell', b1, b2, b3, b4, b5, b6⟩ := h2
  cases a1.symm.trans b1
  cases a3.symm.trans b3
  exact Option.some.inj (a5.symm.trans b5)
theorem ex_ev {args : Array Value} {s : State} {t : Term} {nm : String} (hex : (Cond.exactly t nm).before args s = true) : ∃ a : Nat, t.eval args s none [] s = some (.ref a) := by
  obtain ⟨a, c, cA, kA, q1, -⟩ := Cond.exactly_spec (args := args) (first := s) (o := none) (s := s) (idx := []) (t := t) (cls := nm) hex
  exact ⟨a, q1⟩
def txO (i : Nat) : String := (txTab.getD i ("", 0, "")).1
def txK (i : Nat) : Nat := (txTab.getD i ("", 0, "")).2.1
def txS (i : Nat) : String := (txTab.getD i ("", 0, "")).2.2
def iEx : List Nat := [116, 119, 122, 125, 128, 131, 158, 161, 164, 167, 170, 134, 140, 143, 146, 137, 149, 176, 179, 173, 182, 185, 152, 155, 77, 80, 83, 86, 89, 92, 95, 98, 101, 104, 107, 110, 113, 71, 74, 65, 68, 14, 4]
def iOr : List Nat := [117, 120, 123, 126, 129, 132, 159, 162, 165, 168, 171, 135, 141, 144, 147, 138, 150, 177, 180, 174, 183, 186, 153, 156, 78, 81, 84, 87, 90, 93, 96, 99, 102, 105, 108, 111, 114, 72, 75, 66, 69, 15, 5]
def iWd : List Nat := [118, 121, 124, 127, 130, 133, 160, 163, 166, 169, 172, 136, 142, 145, 148, 139, 151, 178, 181, 175, 184, 187, 154, 157, 79, 82, 85, 88, 91, 94, 97, 100, 103, 106, 109, 112, 115, 73, 76, 67, 70, 16, 6]
def iKe : List Nat := [22, 23, 24, 25, 26, 27, 28, 29, 30, 31, 32, 33, 34, 35, 36, 37, 38, 39, 40, 41, 42, 43, 44, 45, 46, 47, 48, 49, 50, 51, 52, 53, 54, 55, 56, 57, 58, 59, 60, 61, 62, 63, 64]
def iLk : List Nat := [998, 1025, 1033, 1044, 1050, 1056, 1105, 1107, 1109, 1111, 1113, 1074, 1078, 1080, 1082, 1076, 1084, 1131, 1133, 1127, 1143, 1145, 1093, 1095, 959, 961, 963, 965, 967, 969, 971, 973, 975, 977, 979, 981, 983, 952, 954, 939, 946, 916, 208]
def iTe : List Nat := [294, 295, 296, 297, 298, 299, 300, 301, 302, 303, 304, 305, 306, 307, 308, 309, 310, 311, 312, 313, 314, 315, 316, 317, 318, 319, 320, 321, 322, 323, 324, 325, 326, 327, 328, 329, 330, 331, 332, 333, 334, 335, 336, 337, 338, 339, 340, 341, 342, 343, 344, 345, 346, 347, 348, 349, 350, 351, 352, 353, 354, 355, 356, 357, 358, 359, 360, 361, 362, 363, 364, 365, 366, 367, 368, 369, 370, 371, 372, 373, 374, 375, 376, 377, 378, 379, 380, 381, 382, 383, 384, 385, 386, 387, 388, 389, 390, 391, 392, 393]
def iOe : List Nat := [191, 192, 193, 194, 195, 196, 197, 198, 199, 200, 201, 202, 203, 204, 205, 206, 207, 208, 209, 210, 211, 212, 213, 214, 215, 216, 217, 218, 219, 220, 221, 222, 223, 224, 225, 226, 227, 228, 229, 230, 231, 232, 233, 234, 235, 236, 237, 238, 239, 240, 241, 242, 243, 244, 245, 246, 247, 248, 249, 250, 251, 252, 253, 254, 255, 256, 257, 258, 259, 260, 261, 262, 263, 264, 265, 266, 267, 268, 269, 270, 271, 272, 273, 274, 275, 276, 277, 278, 279, 280, 281, 282, 283, 284, 285, 286, 287, 288, 289, 290]
def iRx : List Nat := [1215, 1345, 1346, 1347, 1382, 1383, 1384, 1385, 1386, 1504, 1505, 1508, 1510, 1393, 1394, 1395, 1396, 1397, 1398, 1399, 1400, 1401, 1402, 1403, 1404, 1405, 1406, 1407, 1408, 1409, 1490, 1491, 1493, 1494, 1495, 1496, 1497, 1498, 1499, 1500, 1501, 1502, 1503]
def iSe : List Nat := [728, 739, 747, 757, 763, 779, 793, 808, 818, 1038, 1046, 1051, 1061, 826, 830, 838, 848, 861, 874, 889, 894, 899, 904, 909, 917, 925, 930, 935, 940, 946, 952, 957, 964, 969, 974, 979, 991, 997, 1007, 1015, 1020, 1025, 1032]
def iSc : List Nat := [729, 740, 748, 758, 764, 780, 794, 809, 819, 1039, 1047, 1052, 1062, 827, 831, 839, 849, 862, 875, 890, 895, 900, 905, 910, 918, 926, 931, 936, 941, 947, 953, 958, 965, 970, 975, 980, 992, 998, 1008, 1016, 1021, 1026, 1033]
def iSa : List Nat := [730, 741, 749, 759, 765, 781, 795, 810, 820, 1040, 1048, 1053, 1063, 828, 832, 840, 850, 863, 876, 891, 896, 901, 906, 911, 919, 927, 932, 937, 942, 948, 954, 959, 966, 971, 976, 981, 993, 999, 1009, 1017, 1022, 1027, 1034]
def iSl : List Nat := [731, 742, 750, 760, 766, 782, 796, 811, 821, 1041, 1049, 1054, 1064, 829, 833, 841, 851, 864, 877, 892, 897, 902, 907, 912, 920, 928, 933, 938, 943, 949, 955, 960, 967, 972, 977, 982, 994, 1000, 1010, 1018, 1023, 1028, 1035]
def iSb : List (List Nat) := [[732, 733, 734, 735, 736, 737, 738], [743, 744, 745, 746], [751, 752, 753, 754, 755, 756], [761, 762], [767, 768, 769, 770, 771, 772, 773, 774, 775, 776, 777, 778], [783, 784, 785, 786, 787, 788, 789, 790, 791, 792], [797, 798, 799, 800, 801, 802, 803, 804, 805, 806, 807], [812, 813, 814, 815, 816, 817], [822, 823, 824, 825], [1042, 1043, 1044, 1045], [], [1055, 1056, 1057, 1058, 1059, 1060], [1065], [], [834, 835, 836, 837], [842, 843, 844, 845, 846, 847], [852, 853, 854, 855, 856, 857, 858, 859, 860], [865, 866, 867, 868, 869, 870, 871, 872, 873], [878, 879, 880, 881, 882, 883, 884, 885, 886, 887, 888], [893], [898], [903], [908], [913, 914, 915, 916], [921, 922, 923, 924], [929], [934], [939], [944, 945], [950, 951], [956], [961, 962, 963], [968], [973], [978], [983, 984, 985, 986, 987, 988, 989, 990], [995, 996], [1001, 1002, 1003, 1004, 1005, 1006], [1011, 1012, 1013, 1014], [1019], [1024], [1029, 1030, 1031], [1036, 1037]]
set_option maxRecDepth 100000 in
theorem g_ex : ∀ i, i < 43 → nAt[iEx.getD i 0]? = some (Cond.exactly (.static RX1 (kNm.getD i "") kD) RX1) := by decide +kernel
set_option maxRecDepth 100000 in
theorem g_or : ∀ i, i < 43 → nAt[iOr.getD i 0]? = some (Cond.eq (.field (.static RX1 (kNm.getD i "") kD) "java/lang/Enum" "ordinal" "I") (.int (Int32.ofNat i))) := by decide +kernel
set_option maxRecDepth 100000 in
theorem g_wd : ∀ i, i < 43 → nAt[iWd.getD i 0]? = some (Cond.eq (.field (.static RX1 (kNm.getD i "") kD) RX1 "word" "J") (.long (kWd.getD i 0))) := by decide +kernel
set_option maxRecDepth 100000 in
theorem g_ke : ∀ i, i < 43 → nAt[iKe.getD i 0]? = some (Cond.eq (.elem (.static RX8 "KINDS" "[LShadowRegistry$Kind;") (.int (Int32.ofNat i))) (.static RX1 (kNm.getD i "") kD)) := by decide +kernel
set_option maxRecDepth 100000 in
theorem g_lk : ∀ i, i < 43 → lw_tbl[iLk.getD i 0]? = some (Cond.laysStatic RX1 (kNm.getD i "") kD) := by decide +kernel
set_option maxRecDepth 100000 in
theorem g_te : ∀ i, i < 100 → nAt[iTe.getD i 0]? = some (Cond.eq (.elem (.static "java/lang/Integer" "DigitTens" "[B") (.int (Int32.ofNat i))) (.int (Int32.ofNat (48 + i / 10)))) := by decide +kernel
set_option maxRecDepth 100000 in
theorem g_oe : ∀ i, i < 100 → nAt[iOe.getD i 0]? = some (Cond.eq (.elem (.static "java/lang/Integer" "DigitOnes" "[B") (.int (Int32.ofNat i))) (.int (Int32.ofNat (48 + i % 10)))) := by decide +kernel
set_option maxRecDepth 100000 in
theorem g_rx : ∀ i, i < 43 → lw_tbl[iRx.getD i 0]? = some (Cond.stringRef (txO i) (txK i) (txS i)) := by decide +kernel
set_option maxRecDepth 100000 in
theorem g_se : ∀ i, i < 43 → nAt[iSe.getD i 0]? = some (Cond.exactly (.string (txO i) (txK i)) "java/lang/String") := by decide +kernel
set_option maxRecDepth 100000 in
theorem g_sc : ∀ i, i < 43 → nAt[iSc.getD i 0]? = some (Cond.eq (.field (.string (txO i) (txK i)) "java/lang/String" "coder" "B") (.int 0)) := by decide +kernel
set_option maxRecDepth 100000 in
theorem g_sa : ∀ i, i < 43 → nAt[iSa.getD i 0]? = some (Cond.arrayOf (.field (.string (txO i) (txK i)) "java/lang/String" "value" "[B") .byte) := by decide +kernel
set_option maxRecDepth 100000 in
theorem g_sl : ∀ i, i < 43 → nAt[iSl.getD i 0]? = some (Cond.eq (.length (.field (.string (txO i) (txK i)) "java/lang/String" "value" "[B")) (.int (Int32.ofNat (wLen.getD i 0)))) := by decide +kernel
set_option maxRecDepth 100000 in
theorem g_sb : ∀ i, i < 43 → ∀ j, j < wLen.getD i 0 → nAt[(iSb.getD i []).getD j 0]? = some (Cond.eq (.elem (.field (.string (txO i) (txK i)) "java/lang/String" "value" "[B") (.int (Int32.ofNat j))) (.int ((wByt.getD i []).getD j 0))) := by decide +kernel
theorem wl_lt : ∀ i, i < 43 → wLen.getD i 0 < 13 := by decide +kernel
/-- the enum's constants -/
theorem w_kind {b : Nat} {s : State} (hts : ∀ w ∈ lw_tbl, w.before #[Value.ref b] s = true) (hgv : (Jvm.Cond.and given_1 narrow_1).before #[Value.ref b] s = true) {i : Nat} (hi : i < 43) : ∃ a : Nat, (Term.static RX1 (kNm.getD i "") kD).eval #[Value.ref b] s none [] s = some (.ref a) ∧ va_Z RX1 (kNm.getD i "") kD (.ref a) (fun q : Nat => s.heap.size ≤ q) s s.heap ∧ va_O RX1 a (fun q : Nat => s.heap.size ≤ q) s s.heap ∧ va_OF RX1 "word" "J" (.long (kWd.getD i 0)) a (fun q : Nat => s.heap.size ≤ q) s s.heap ∧ va_OF "java/lang/Enum" "ordinal" "I" (.int (Int32.ofNat i)) a (fun q : Nat => s.heap.size ≤ q) s s.heap := by
  have hex := n_get (g_ex i hi) hgv
  obtain ⟨a, ha⟩ := ex_ev hex
  have hA : ∀ q : Nat, q < s.heap.size → ¬ (fun q : Nat => s.heap.size ≤ q) q := fun q h h2 => absurd h (Nat.not_lt.mpr h2)
  exact ⟨a, ha, va_Zof (hts _ (List.mem_of_getElem? (g_lk i hi))) (hts _ (List.mem_of_getElem? (i := 41) (show lw_tbl[41]? = some (Cond.initialized RX1) by decide +kernel))) ha hA, va_Oof hex ha hA, vk_OFof ha (va_eqtl (n_get (g_wd i hi) hgv)) hA, vk_OFof ha (va_eqt (n_get (g_or i hi) hgv)) hA⟩
/-- a text -/
theorem w_text {b : Nat} {s : State} (hgv : (Jvm.Cond.and given_1 narrow_1).before #[Value.ref b] s = true) {i : Nat} (hi : i < 43) : ∃ a v : Nat, (Term.string (txO i) (txK i)).eval #[Value.ref b] s none [] s = some (.ref a) ∧ va_O "java/lang/String" a (fun q : Nat => s.heap.size ≤ q) s s.heap ∧ va_OF "java/lang/String" "coder" "B" (.int 0) a (fun q : Nat => s.heap.size ≤ q) s s.heap ∧ va_OF "java/lang/String" "value" "[B" (.ref v) a (fun q : Nat => s.heap.size ≤ q) s s.heap ∧ va_T .byte v (wLen.getD i 0) (fun j => .int ((wByt.getD i []).getD j 0)) (fun q : Nat => s.heap.size ≤ q) s s.heap := by
  have hex := n_get (g_se i hi) hgv
  obtain ⟨a, ha⟩ := ex_ev hex
  have hA : ∀ q : Nat, q < s.heap.size → ¬ (fun q : Nat => s.heap.size ≤ q) q := fun q h h2 => absurd h (Nat.not_lt.mpr h2)
  obtain ⟨v, hv, hT⟩ := va_Tof (N := wLen.getD i 0) (f := fun j => .int ((wByt.getD i []).getD j 0)) (by have := wl_lt i hi; omega) (n_get (g_sa i hi) hgv) (va_eqt (n_get (g_sl i hi) hgv)) (fun j hj => va_eqt (n_get (g_sb i hi j hj) hgv)) hA
  exact ⟨a, v, ha, va_Oof hex ha hA, vk_OFof ha (va_eqt (n_get (g_sc i hi) hgv)) hA, vk_OFof ha hv hA, hT⟩
theorem w_sel {b : Nat} {s : State} (hts : ∀ w ∈ lw_tbl, w.before #[Value.ref b] s = true) : ∀ w ∈ lw_tbl ++ xSel, w.before #[Value.ref b] s = true := by
  intro w hw
  rcases List.mem_append.mp hw with hw | hw
  · exact hts w hw
  obtain ⟨c, k, hc, -⟩ := Cond.instantiable_spec (args := #[Value.ref b]) (first := s) (o := none) (s := s) (idx := []) (hts _ (List.mem_of_getElem? (i := 1411) (show lw_tbl[1411]? = some (Cond.instantiable RJ4 4) by decide +kernel)))
  simp only [xSel, List.mem_cons, List.not_mem_nil, or_false] at hw
  rcases hw with rfl | rfl | rfl | rfl
  · exact sel_priv hc ⟨by decide, by decide⟩ (hts _ (List.mem_of_getElem? (i := 1530) (show lw_tbl[1530]? = some (Cond.sameMethod yJ5_ensureCapacityInternal_d00df.cls yJ5_ensureCapacityInternal_d00df.cls yJ5_ensureCapacityInternal_d00df.name yJ5_ensureCapacityInternal_d00df.desc) by decide +kernel))) (hts _ (List.mem_of_getElem? (i := 1229) (show lw_tbl[1229]? = some (Cond.privateMethod yJ5_ensureCapacityInternal_d00df) by decide +kernel))) (hts _ (List.mem_of_getElem? (i := 1230) (show lw_tbl[1230]? = some (Cond.instanceMethod yJ5_ensureCapacityInternal_d00df) by decide +kernel)))
  · exact sel_priv hc ⟨by decide, by decide⟩ (hts _ (List.mem_of_getElem? (i := 1531) (show lw_tbl[1531]? = some (Cond.sameMethod yJ5_newCapacity_0f7a4.cls yJ5_newCapacity_0f7a4.cls yJ5_newCapacity_0f7a4.name yJ5_newCapacity_0f7a4.desc) by decide +kernel))) (hts _ (List.mem_of_getElem? (i := 1233) (show lw_tbl[1233]? = some (Cond.privateMethod yJ5_newCapacity_0f7a4) by decide +kernel))) (hts _ (List.mem_of_getElem? (i := 1234) (show lw_tbl[1234]? = some (Cond.instanceMethod yJ5_newCapacity_0f7a4) by decide +kernel)))
  · exact sel_priv hc ⟨by decide, by decide⟩ (hts _ (List.mem_of_getElem? (i := 1532) (show lw_tbl[1532]? = some (Cond.sameMethod yJ5_putStringAt_47b60.cls yJ5_putStringAt_47b60.cls yJ5_putStringAt_47b60.name yJ5_putStringAt_47b60.desc) by decide +kernel))) (hts _ (List.mem_of_getElem? (i := 1280) (show lw_tbl[1280]? = some (Cond.privateMethod yJ5_putStringAt_47b60) by decide +kernel))) (hts _ (List.mem_of_getElem? (i := 1281) (show lw_tbl[1281]? = some (Cond.instanceMethod yJ5_putStringAt_47b60) by decide +kernel)))
  · exact sel_priv hc ⟨by decide, by decide⟩ (hts _ (List.mem_of_getElem? (i := 1533) (show lw_tbl[1533]? = some (Cond.sameMethod yJ5_inflateIfNeededFor_a7421.cls yJ5_inflateIfNeededFor_a7421.cls yJ5_inflateIfNeededFor_a7421.name yJ5_inflateIfNeededFor_a7421.desc) by decide +kernel))) (hts _ (List.mem_of_getElem? (i := 1284) (show lw_tbl[1284]? = some (Cond.privateMethod yJ5_inflateIfNeededFor_a7421) by decide +kernel))) (hts _ (List.mem_of_getElem? (i := 1285) (show lw_tbl[1285]? = some (Cond.instanceMethod yJ5_inflateIfNeededFor_a7421) by decide +kernel)))
theorem w_cls {b : Nat} {s : State} (hts : ∀ w ∈ lw_tbl, w.before #[Value.ref b] s = true) : ∃ (dC : Nat → ClassId) (dI : Nat → Nat → Nat), ∀ (k : Nat) (q : vw_C), vwCl[k]? = some q → u_Kn s q.1 q.2.1 q.2.2 (dC k) (dI k) := by
  have hx := w_sel hts
  obtain ⟨c0, i0, h0⟩ := u_known (C := RX0) (T := TX0) (N := 10) (n := 10) hx (fun w hw => (List.mem_filter.mp (lay_X0 w hw)).1) (hts _ (List.mem_of_getElem? (i := 88) (show lw_tbl[88]? = some (Cond.instantiable RX0 10) by decide +kernel)))
  obtain ⟨c1, i1, h1⟩ := u_known (C := RX2) (T := TX2) (N := 6) (n := 6) hx (fun w hw => (List.mem_filter.mp (lay_X2 w hw)).1) (hts _ (List.mem_of_getElem? (i := 95) (show lw_tbl[95]? = some (Cond.instantiable RX2 6) by decide +kernel)))
  obtain ⟨c2, i2, h2⟩ := u_known (C := RX3) (T := TX3) (N := 9) (n := 9) hx (fun w hw => (List.mem_filter.mp (lay_X3 w hw)).1) (hts _ (List.mem_of_getElem? (i := 176) (show lw_tbl[176]? = some (Cond.instantiable RX3 9) by decide +kernel)))
  obtain ⟨c3, i3, h3⟩ := u_known (C := RX4) (T := TX4) (N := 3) (n := 3) hx (fun w hw => (List.mem_filter.mp (lay_X4 w hw)).1) (hts _ (List.mem_of_getElem? (i := 239) (show lw_tbl[239]? = some (Cond.instantiable RX4 3) by decide +kernel)))
  obtain ⟨c4, i4, h4⟩ := u_known (C := RX5) (T := TX5) (N := 11) (n := 11) hx (fun w hw => (List.mem_filter.mp (lay_X5 w hw)).1) (hts _ (List.mem_of_getElem? (i := 255) (show lw_tbl[255]? = some (Cond.instantiable RX5 11) by decide +kernel)))
  obtain ⟨c5, i5, h5⟩ := u_known (C := RX6) (T := TX6) (N := 2) (n := 2) hx (fun w hw => (List.mem_filter.mp (lay_X6 w hw)).1) (hts _ (List.mem_of_getElem? (i := 72) (show lw_tbl[72]? = some (Cond.instantiable RX6 2) by decide +kernel)))
  obtain ⟨c6, i6, h6⟩ := u_known (C := RX7) (T := TX7) (N := 5) (n := 5) hx (fun w hw => (List.mem_filter.mp (lay_X7 w hw)).1) (hts _ (List.mem_of_getElem? (i := 178) (show lw_tbl[178]? = some (Cond.instantiable RX7 5) by decide +kernel)))
  obtain ⟨c7, i7, h7⟩ := u_known (C := RX8) (T := TX8) (N := 8) (n := 8) hx (fun w hw => (List.mem_filter.mp (lay_X8 w hw)).1) (hts _ (List.mem_of_getElem? (i := 64) (show lw_tbl[64]? = some (Cond.instantiable RX8 8) by decide +kernel)))
  obtain ⟨c8, i8, h8⟩ := u_known (C := RX9) (T := TX9) (N := 7) (n := 7) hx (fun w hw => (List.mem_filter.mp (lay_X9 w hw)).1) (hts _ (List.mem_of_getElem? (i := 1173) (show lw_tbl[1173]? = some (Cond.instantiable RX9 7) by decide +kernel)))
  obtain ⟨c9, i9, h9⟩ := u_known (C := RX10) (T := TX10) (N := 5) (n := 5) hx (fun w hw => (List.mem_filter.mp (lay_X10 w hw)).1) (hts _ (List.mem_of_getElem? (i := 778) (show lw_tbl[778]? = some (Cond.instantiable RX10 5) by decide +kernel)))
  obtain ⟨c10, i10, h10⟩ := u_known (C := RJ0) (T := TJ0) (N := 4) (n := 4) hx (fun w hw => (List.mem_filter.mp (lay_J0 w hw)).1) (hts _ (List.mem_of_getElem? (i := 1438) (show lw_tbl[1438]? = some (Cond.instantiable RJ0 4) by decide +kernel)))
  obtain ⟨c11, i11, h11⟩ := u_known (C := RJ4) (T := TJ4) (N := 4) (n := 4) hx (fun w hw => (List.mem_filter.mp (lay_J4 w hw)).1) (hts _ (List.mem_of_getElem? (i := 1411) (show lw_tbl[1411]? = some (Cond.instantiable RJ4 4) by decide +kernel)))
  refine ⟨fun k => [c0, c1, c2, c3, c4, c5, c6, c7, c8, c9, c10, c11].getD k c0, fun k => [i0, i1, i2, i3, i4, i5, i6, i7, i8, i9, i10, i11].getD k i0, ?_⟩
  intro k q hq
  match k, hq with
  | 0, hq => cases hq; exact h0
  | 1, hq => cases hq; exact h1
  | 2, hq => cases hq; exact h2
  | 3, hq => cases hq; exact h3
  | 4, hq => cases hq; exact h4
  | 5, hq => cases hq; exact h5
  | 6, hq => cases hq; exact h6
  | 7, hq => cases hq; exact h7
  | 8, hq => cases hq; exact h8
  | 9, hq => cases hq; exact h9
  | 10, hq => cases hq; exact h10
  | 11, hq => cases hq; exact h11
  | k + 12, hq => exact absurd hq (by simp [vwCl])
theorem w_arr {b : Nat} {s : State} (hts : ∀ w ∈ lw_tbl, w.before #[Value.ref b] s = true) : ∃ zA : Nat → ClassId, (∀ (k : Nat) (q : ClassId × FieldType), [(zA 0, FieldType.int), (zA 1, .long), (zA 2, .byte), (zA 3, .object RX2), (zA 4, .object RX1), (zA 5, .object RX10), (zA 6, .array .int), (zA 7, .object "java/lang/String"), (zA 8, .boolean)][k]? = some q → ArrOfT s q.1 q.2 ∧ va_RA s q.1 q.2) ∧ ∃ k : Class, (s.vm.classes.findIdx? fun x => match x.kind with | .array component _ => component == zA 0 | _ => false) = some (zA 6) ∧ s.vm.classes[zA 6]? = some k ∧ k.kind = .array (zA 0) (.array .int) := by
  obtain ⟨c0, k0, m0, a0, b0, d0⟩ := Cond.arrayClass_spec (hts _ (List.mem_of_getElem? (i := 132) (show lw_tbl[132]? = some (Cond.arrayClass .int) by decide +kernel)))
  obtain ⟨c1, k1, m1, a1, b1, d1⟩ := Cond.arrayClass_spec (hts _ (List.mem_of_getElem? (i := 131) (show lw_tbl[131]? = some (Cond.arrayClass .long) by decide +kernel)))
  obtain ⟨c2, k2, m2, a2, b2, d2⟩ := Cond.arrayClass_spec (hts _ (List.mem_of_getElem? (i := 86) (show lw_tbl[86]? = some (Cond.arrayClass .byte) by decide +kernel)))
  obtain ⟨c8, k8, m8, a8, b8, d8⟩ := Cond.arrayClass_spec (hts _ (List.mem_of_getElem? (i := 1377) (show lw_tbl[1377]? = some (Cond.arrayClass .boolean) by decide +kernel)))
  obtain ⟨m3, c3, k3, e3, -, b3, d3, a3⟩ := Cond.arrayOver_spec (n := RX2) (args := #[Value.ref b]) (first := s) (o := none) (s := s) (idx := []) (hts _ (List.mem_of_getElem? (i := 94) (show lw_tbl[94]? = some (Cond.arrayOver (.object RX2)) by decide +kernel)))
  obtain ⟨m4, c4, k4, e4, -, b4, d4, a4⟩ := Cond.arrayOver_spec (n := RX1) (args := #[Value.ref b]) (first := s) (o := none) (s := s) (idx := []) (hts _ (List.mem_of_getElem? (i := 184) (show lw_tbl[184]? = some (Cond.arrayOver (.object RX1)) by decide +kernel)))
  obtain ⟨m5, c5, k5, e5, -, b5, d5, a5⟩ := Cond.arrayOver_spec (n := RX10) (args := #[Value.ref b]) (first := s) (o := none) (s := s) (idx := []) (hts _ (List.mem_of_getElem? (i := 1181) (show lw_tbl[1181]? = some (Cond.arrayOver (.object RX10)) by decide +kernel)))
  obtain ⟨m7, c7, k7, e7, -, b7, d7, a7⟩ := Cond.arrayOver_spec (n := RJ0) (args := #[Value.ref b]) (first := s) (o := none) (s := s) (idx := []) (hts _ (List.mem_of_getElem? (i := 1392) (show lw_tbl[1392]? = some (Cond.arrayOver (.object RJ0)) by decide +kernel)))
  obtain ⟨m6, c6, k6, e6, f6, b6, d6, a6⟩ := Jvm.Stand.arrayOver_specB (t := .int) (args := #[Value.ref b]) (first := s) (o := none) (s := s) (idx := []) (hts _ (List.mem_of_getElem? (i := 1179) (show lw_tbl[1179]? = some (Cond.arrayOver (.array .int)) by decide +kernel)))
  have e0 : (FieldType.array .int).toString = "[" ++ FieldType.int.toString := by decide +kernel
  rw [e0] at e6
  have em : m6 = c0 := Option.some.inj (e6.symm.trans a0)
  subst em
  refine ⟨fun k => [m6, c1, c2, c3, c4, c5, c6, c7, c8].getD k m6, fun k q hq => ?_, k6, f6, b6, d6⟩
  match k, hq with
  | 0, hq => cases hq; exact ⟨fun n z => ⟨fun k h => (by cases h), k0, b0, m0, d0⟩, a0⟩
  | 1, hq => cases hq; exact ⟨fun n z => ⟨fun k h => (by cases h), k1, b1, m1, d1⟩, a1⟩
  | 2, hq => cases hq; exact ⟨fun n z => ⟨fun k h => (by cases h), k2, b2, m2, d2⟩, a2⟩
  | 3, hq => cases hq; exact ⟨fun n z => ⟨fun k h => (by cases h), k3, b3, m3, d3⟩, k3, m3, b3, d3, e3, a3⟩
  | 4, hq => cases hq; exact ⟨fun n z => ⟨fun k h => (by cases h), k4, b4, m4, d4⟩, k4, m4, b4, d4, e4, a4⟩
  | 5, hq => cases hq; exact ⟨fun n z => ⟨fun k h => (by cases h), k5, b5, m5, d5⟩, k5, m5, b5, d5, e5, a5⟩
  | 6, hq => cases hq; exact ⟨fun n z => ⟨fun k h => (by cases h), k6, b6, m6, d6⟩, a6⟩
  | 7, hq => cases hq; exact ⟨fun n z => ⟨fun k h => (by cases h), k7, b7, m7, d7⟩, k7, m7, b7, d7, e7, a7⟩
  | 8, hq => cases hq; exact ⟨fun n z => ⟨fun k h => (by cases h), k8, b8, m8, d8⟩, a8⟩
  | k + 9, hq => exact absurd hq (by simp)
theorem nw_of {w : Cond} {args : Array Value} {s : State} (h : nwOk w = true) (hb : w.before args s = true) : va_Nw w s := by
  cases w with
  | fieldLinkNest a i b n d h => exact va_Nw.of rfl hb
  | methodLinkNest a i x h => exact va_Nw.of rfl hb
  | castable C T => exact va_Nw.of rfl hb
  | declares x => exact va_Nw.of rfl hb
  | arrayOver t =>
    cases t with
    | object C => exact va_AO.of hb
    | _ => exact absurd h (by simp [nwOk])
  | _ => exact absurd h (by simp [nwOk])
theorem pick {n : Nat} {P : Nat → Nat → Prop} (h : ∀ i, i < n → ∃ a, P i a) : ∃ f : Nat → Nat, ∀ i, i < n → P i (f i) := by
  refine ⟨fun i => if hi : i < n then (h i hi).choose else 0, fun i hi => ?_⟩
  have e : (fun i => if hi : i < n then (h i hi).choose else 0) i = (h i hi).choose := dif_pos hi
  exact (congrArg (P i) e).mpr (h i hi).choose_spec
theorem w_sr {b : Nat} {s : State} (hts : ∀ w ∈ lw_tbl, w.before #[Value.ref b] s = true) (hgv : (Jvm.Cond.and given_1 narrow_1).before #[Value.ref b] s = true) : SR s := by
  intro r hr
  simp only [strTab, List.mem_cons, List.not_mem_nil, or_false] at hr
  rcases hr with rfl | rfl | rfl | rfl | rfl | rfl | rfl | rfl | rfl | rfl | rfl | rfl | rfl
  · obtain ⟨a, ha⟩ := ex_ev (n_get (i := 674) (show nAt[674]? = some (Cond.exactly (.string "ShadowRegistry" 68) "java/lang/String") by decide +kernel) hgv)
    exact ⟨a, vk_R.of (hts _ (List.mem_of_getElem? (i := 881) (show lw_tbl[881]? = some (Cond.stringRef "ShadowRegistry" 68 "the tape is full") by decide +kernel))) ha⟩
  · obtain ⟨a, ha⟩ := ex_ev (n_get (i := 694) (show nAt[694]? = some (Cond.exactly (.string "ShadowRegistry" 79) "java/lang/String") by decide +kernel) hgv)
    exact ⟨a, vk_R.of (hts _ (List.mem_of_getElem? (i := 890) (show lw_tbl[890]? = some (Cond.stringRef "ShadowRegistry" 79 "the tape has not so many bytes") by decide +kernel))) ha⟩
  · obtain ⟨a, ha⟩ := ex_ev (n_get (i := 442) (show nAt[442]? = some (Cond.exactly (.string "ShadowRegistry" 114) "java/lang/String") by decide +kernel) hgv)
    exact ⟨a, vk_R.of (hts _ (List.mem_of_getElem? (i := 400) (show lw_tbl[400]? = some (Cond.stringRef "ShadowRegistry" 114 "there are no houses") by decide +kernel))) ha⟩
  · obtain ⟨a, ha⟩ := ex_ev (n_get (i := 465) (show nAt[465]? = some (Cond.exactly (.string "ShadowRegistry" 231) "java/lang/String") by decide +kernel) hgv)
    exact ⟨a, vk_R.of (hts _ (List.mem_of_getElem? (i := 452) (show lw_tbl[452]? = some (Cond.stringRef "ShadowRegistry" 231 "there is no such house") by decide +kernel))) ha⟩
  · obtain ⟨a, ha⟩ := ex_ev (n_get (i := 491) (show nAt[491]? = some (Cond.exactly (.string "ShadowRegistry" 234) "java/lang/String") by decide +kernel) hgv)
    exact ⟨a, vk_R.of (hts _ (List.mem_of_getElem? (i := 495) (show lw_tbl[495]? = some (Cond.stringRef "ShadowRegistry" 234 "its wall has no curfew") by decide +kernel))) ha⟩
  · obtain ⟨a, ha⟩ := ex_ev (n_get (i := 517) (show nAt[517]? = some (Cond.exactly (.string "ShadowRegistry" 236) "java/lang/String") by decide +kernel) hgv)
    exact ⟨a, vk_R.of (hts _ (List.mem_of_getElem? (i := 520) (show lw_tbl[520]? = some (Cond.stringRef "ShadowRegistry" 236 "there is no such hour") by decide +kernel))) ha⟩
  · obtain ⟨a, ha⟩ := ex_ev (n_get (i := 542) (show nAt[542]? = some (Cond.exactly (.string "ShadowRegistry" 162) "java/lang/String") by decide +kernel) hgv)
    exact ⟨a, vk_R.of (hts _ (List.mem_of_getElem? (i := 553) (show lw_tbl[553]? = some (Cond.stringRef "ShadowRegistry" 162 "it is not in the dark then") by decide +kernel))) ha⟩
  · obtain ⟨a, ha⟩ := ex_ev (n_get (i := 572) (show nAt[572]? = some (Cond.exactly (.string "ShadowRegistry" 172) "java/lang/String") by decide +kernel) hgv)
    exact ⟨a, vk_R.of (hts _ (List.mem_of_getElem? (i := 576) (show lw_tbl[576]? = some (Cond.stringRef "ShadowRegistry" 172 "these are no hours of a curfew") by decide +kernel))) ha⟩
  · obtain ⟨a, ha⟩ := ex_ev (n_get (i := 606) (show nAt[606]? = some (Cond.exactly (.string "ShadowRegistry" 178) "java/lang/String") by decide +kernel) hgv)
    exact ⟨a, vk_R.of (hts _ (List.mem_of_getElem? (i := 609) (show lw_tbl[609]? = some (Cond.stringRef "ShadowRegistry" 178 "no wall has this height") by decide +kernel))) ha⟩
  · obtain ⟨a, ha⟩ := ex_ev (n_get (i := 1066) (show nAt[1066]? = some (Cond.exactly (.string "ShadowRegistry" 183) "java/lang/String") by decide +kernel) hgv)
    exact ⟨a, vk_R.of (hts _ (List.mem_of_getElem? (i := 1519) (show lw_tbl[1519]? = some (Cond.stringRef "ShadowRegistry" 183 "the street has no such place") by decide +kernel))) ha⟩
  · obtain ⟨a, ha⟩ := ex_ev (n_get (i := 1098) (show nAt[1098]? = some (Cond.exactly (.string "ShadowRegistry" 185) "java/lang/String") by decide +kernel) hgv)
    exact ⟨a, vk_R.of (hts _ (List.mem_of_getElem? (i := 1520) (show lw_tbl[1520]? = some (Cond.stringRef "ShadowRegistry" 185 "another house stands there") by decide +kernel))) ha⟩
  · obtain ⟨a, ha⟩ := ex_ev (n_get (i := 633) (show nAt[633]? = some (Cond.exactly (.string "ShadowRegistry" 238) "java/lang/String") by decide +kernel) hgv)
    exact ⟨a, vk_R.of (hts _ (List.mem_of_getElem? (i := 621) (show lw_tbl[621]? = some (Cond.stringRef "ShadowRegistry" 238 "days are 1 to 30") by decide +kernel))) ha⟩
  · obtain ⟨a, ha⟩ := ex_ev (n_get (i := 653) (show nAt[653]? = some (Cond.exactly (.string "ShadowRegistry" 240) "java/lang/String") by decide +kernel) hgv)
    exact ⟨a, vk_R.of (hts _ (List.mem_of_getElem? (i := 706) (show lw_tbl[706]? = some (Cond.stringRef "ShadowRegistry" 240 "hours are 1 to 13") by decide +kernel))) ha⟩
/-- all of it -/
theorem w_all {b L : Nat} {xs : Nat → Int32} {s : State} (hts : ∀ w ∈ lw_tbl, w.before #[Value.ref b] s = true) (hgv : (Jvm.Cond.and given_1 narrow_1).before #[Value.ref b] s = true) (hX : va_X b L xs s s.heap) (hbl : b < s.heap.size) : ∃ Z : GZ, (zms Z 3 = b ∧ zms Z 4 = L) ∧ KW Z s ∧ SF Z (fun q : Nat => s.heap.size ≤ q) s s.heap := by
  have hA : ∀ q : Nat, q < s.heap.size → ¬ (fun q : Nat => s.heap.size ≤ q) q := fun q h h2 => absurd h (Nat.not_lt.mpr h2)
  obtain ⟨dC, dI, hKc⟩ := w_cls hts
  obtain ⟨zA, hZA, hAA⟩ := w_arr hts
  obtain ⟨ad, had⟩ : ∃ ad : Nat → Nat, ∀ i, i < 43 → (Term.static RX1 (kNm.getD i "") kD).eval #[Value.ref b] s none [] s = some (.ref (ad i)) ∧ va_Z RX1 (kNm.getD i "") kD (.ref (ad i)) (fun q : Nat => s.heap.size ≤ q) s s.heap ∧ va_O RX1 (ad i) (fun q : Nat => s.heap.size ≤ q) s s.heap ∧ va_OF RX1 "word" "J" (.long (kWd.getD i 0)) (ad i) (fun q : Nat => s.heap.size ≤ q) s s.heap ∧ va_OF "java/lang/Enum" "ordinal" "I" (.int (Int32.ofNat i)) (ad i) (fun q : Nat => s.heap.size ≤ q) s s.heap :=
    pick (fun i hi => w_kind hts hgv hi)
  obtain ⟨sk, hsk⟩ : ∃ sk : Nat → Nat, ∀ i, i < 43 → ∃ v : Nat, (Term.string (txO i) (txK i)).eval #[Value.ref b] s none [] s = some (.ref (sk i)) ∧ va_O "java/lang/String" (sk i) (fun q : Nat => s.heap.size ≤ q) s s.heap ∧ va_OF "java/lang/String" "coder" "B" (.int 0) (sk i) (fun q : Nat => s.heap.size ≤ q) s s.heap ∧ va_OF "java/lang/String" "value" "[B" (.ref v) (sk i) (fun q : Nat => s.heap.size ≤ q) s s.heap ∧ va_T .byte v (wLen.getD i 0) (fun j => .int ((wByt.getD i []).getD j 0)) (fun q : Nat => s.heap.size ≤ q) s s.heap :=
    pick (fun i hi => w_text hgv hi)
  obtain ⟨sv, hsv⟩ : ∃ sv : Nat → Nat, ∀ i, i < 43 → (Term.string (txO i) (txK i)).eval #[Value.ref b] s none [] s = some (.ref (sk i)) ∧ va_O "java/lang/String" (sk i) (fun q : Nat => s.heap.size ≤ q) s s.heap ∧ va_OF "java/lang/String" "coder" "B" (.int 0) (sk i) (fun q : Nat => s.heap.size ≤ q) s s.heap ∧ va_OF "java/lang/String" "value" "[B" (.ref (sv i)) (sk i) (fun q : Nat => s.heap.size ≤ q) s s.heap ∧ va_T .byte (sv i) (wLen.getD i 0) (fun j => .int ((wByt.getD i []).getD j 0)) (fun q : Nat => s.heap.size ≤ q) s s.heap :=
    pick (fun i hi => hsk i hi)
  obtain ⟨m0, hm0, hT0⟩ := va_Tof (N := 43) (f := fun j => .ref (ad j)) (A := (fun q : Nat => s.heap.size ≤ q)) (by decide) (n_get (i := 19) (show nAt[19]? = some (Cond.arrayOf (.static RX8 "KINDS" "[LShadowRegistry$Kind;") (.object RX1)) by decide +kernel) hgv) (va_eqt (n_get (i := 20) (show nAt[20]? = some (Cond.eq (.length (.static RX8 "KINDS" "[LShadowRegistry$Kind;")) (.int 43)) by decide +kernel) hgv)) (fun j hj => va_eqv (n_get (g_ke j hj) hgv) (had j hj).1) hA
  obtain ⟨m1, hm1, hTm1⟩ := va_Tof (N := 100) (f := fun j => .int (Int32.ofNat (48 + j / 10))) (A := (fun q : Nat => s.heap.size ≤ q)) (by decide) (n_get (i := 292) (show nAt[292]? = some (Cond.arrayOf (.static "java/lang/Integer" "DigitTens" "[B") .byte) by decide +kernel) hgv) (va_eqt (n_get (i := 293) (show nAt[293]? = some (Cond.eq (.length (.static "java/lang/Integer" "DigitTens" "[B")) (.int 100)) by decide +kernel) hgv)) (fun j hj => va_eqt (n_get (g_te j hj) hgv)) hA
  obtain ⟨m2, hm2, hTm2⟩ := va_Tof (N := 100) (f := fun j => .int (Int32.ofNat (48 + j % 10))) (A := (fun q : Nat => s.heap.size ≤ q)) (by decide) (n_get (i := 189) (show nAt[189]? = some (Cond.arrayOf (.static "java/lang/Integer" "DigitOnes" "[B") .byte) by decide +kernel) hgv) (va_eqt (n_get (i := 190) (show nAt[190]? = some (Cond.eq (.length (.static "java/lang/Integer" "DigitOnes" "[B")) (.int 100)) by decide +kernel) hgv)) (fun j hj => va_eqt (n_get (g_oe j hj) hgv)) hA
  have hXT : va_T .int b L (fun j => .int (xs j)) (fun q : Nat => s.heap.size ≤ q) s s.heap := by
    obtain ⟨scr, x1, x2, x3, x4, x5⟩ := hX
    exact ⟨scr, x1, x2, x3, by omega, by rw [x4], x5, hA b hbl⟩
  refine ⟨((dC, dI), zA, ad, fun k => if k = 0 then m0 else if k = 1 then m1 else if k = 2 then m2 else if k = 3 then b else L, sk, sv, xs), ⟨rfl, rfl⟩, ⟨⟨hKc, hZA⟩, fun w hw => ?_, w_sr hts hgv, ?_, fun j r hr => ?_, hAA⟩, fun i hi => ⟨(had i hi).2.1, (had i hi).2.2.1, (had i hi).2.2.2.1⟩, fun i j hi hj e => ?_, ?_, hT0, ⟨?_, hTm1⟩, ⟨?_, hTm2, hXT⟩, fun i hi => (hsv i hi).2, ?_, ?_, ?_, ?_⟩
  · obtain ⟨h1, h2⟩ := List.mem_filter.mp hw
    exact nw_of h2 (hts w h1)
  · obtain ⟨a, c, cA, kA, q1, q2, q3, q4, -⟩ := Cond.exactly_spec (args := #[Value.ref b]) (first := s) (o := none) (s := s) (idx := []) (cls := RX1) (n_get (g_ex 0 (by decide)) hgv)
    exact ⟨c, kA, q2, q4⟩
  · have hj : j < 43 := by
      have := (List.getElem?_eq_some_iff.mp hr).1
      exact this
    have e : txTab.getD j ("", 0, "") = r := by rw [List.getD_eq_getElem?_getD, hr]; rfl
    have h1 := hts _ (List.mem_of_getElem? (g_rx j hj))
    have h2 := (hsv j hj).1
    unfold txO txK txS at h1
    unfold txO txK at h2
    rw [e] at h1 h2
    exact vk_R.of h1 h2
  · have e2 : ad i = ad j := e
    have h1 := (had i hi).2.2.2.2
    have h2 := (had j hj).2.2.2.2
    rw [e2] at h1
    have e3 := Value.int.inj (h1.inj h2)
    have e4 := congrArg Int32.toNatClampNeg e3
    rwa [show (Int32.ofNat i).toNatClampNeg = i from nI_clamp (by omega), show (Int32.ofNat j).toNatClampNeg = j from nI_clamp (by omega)] at e4
  · exact va_Zof (hts _ (List.mem_of_getElem? (i := 937) (show lw_tbl[937]? = some (Cond.laysStatic RX8 "KINDS" "[LShadowRegistry$Kind;") by decide +kernel))) (hts _ (List.mem_of_getElem? (i := 34) (show lw_tbl[34]? = some (Cond.initialized RX8) by decide +kernel))) hm0 hA
  · exact va_Zof (hts _ (List.mem_of_getElem? (i := 1336) (show lw_tbl[1336]? = some (Cond.laysStatic "java/lang/Integer" "DigitTens" "[B") by decide +kernel))) (hts _ (List.mem_of_getElem? (i := 55) (show lw_tbl[55]? = some (Cond.initialized "java/lang/Integer") by decide +kernel))) hm1 hA
  · exact va_Zof (hts _ (List.mem_of_getElem? (i := 1334) (show lw_tbl[1334]? = some (Cond.laysStatic "java/lang/Integer" "DigitOnes" "[B") by decide +kernel))) (hts _ (List.mem_of_getElem? (i := 55) (show lw_tbl[55]? = some (Cond.initialized "java/lang/Integer") by decide +kernel))) hm2 hA
  · exact va_Zof (hts _ (List.mem_of_getElem? (i := 838) (show lw_tbl[838]? = some (Cond.laysStatic "java/lang/String" "COMPACT_STRINGS" "Z") by decide +kernel))) (hts _ (List.mem_of_getElem? (i := 46) (show lw_tbl[46]? = some (Cond.initialized "java/lang/String") by decide +kernel))) (va_eqi (n_get (i := 9) (show nAt[9]? = some (Cond.eq (.static "java/lang/String" "COMPACT_STRINGS" "Z") (.int 1)) by decide +kernel) hgv)) hA
  · exact va_Zqof (hts _ (List.mem_of_getElem? (i := 854) (show lw_tbl[854]? = some (Cond.laysStatic "jdk/internal/util/Preconditions" "SIOOBE_FORMATTER" "Ljava/util/function/BiFunction;") by decide +kernel))) (hts _ (List.mem_of_getElem? (i := 53) (show lw_tbl[53]? = some (Cond.initialized "jdk/internal/util/Preconditions") by decide +kernel))) (n_get (i := 10) (show nAt[10]? = some (Cond.isRef (.static "jdk/internal/util/Preconditions" "SIOOBE_FORMATTER" "Ljava/util/function/BiFunction;")) by decide +kernel) hgv) hA
  · exact vx_Zqof (hts _ (List.mem_of_getElem? (i := 386) (show lw_tbl[386]? = some (Cond.laysStatic Bundle.tN "UNASSIGNED_STACK" Bundle.steD) by decide +kernel))) (hts _ (List.mem_of_getElem? (i := 57) (show lw_tbl[57]? = some (Cond.initialized Bundle.tN) by decide +kernel))) (n_get (i := 7) (show nAt[7]? = some (Cond.isRef (.static Bundle.tN "UNASSIGNED_STACK" Bundle.steD)) by decide +kernel) hgv) hA
  · exact vx_Zqof (hts _ (List.mem_of_getElem? (i := 388) (show lw_tbl[388]? = some (Cond.laysStatic Bundle.tN "SUPPRESSED_SENTINEL" Bundle.listD) by decide +kernel))) (hts _ (List.mem_of_getElem? (i := 57) (show lw_tbl[57]? = some (Cond.initialized Bundle.tN) by decide +kernel))) (n_get (i := 8) (show nAt[8]? = some (Cond.isRef (.static Bundle.tN "SUPPRESSED_SENTINEL" Bundle.listD)) by decide +kernel) hgv) hA
