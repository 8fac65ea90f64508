/-! What the tables and the premises give at the law's entry. -/
def nAt : List Cond := flatC (Jvm.Cond.and given_1 narrow_1)
theorem n_get {i : Nat} {c : Cond} {args : Array Value} {s : State} (h : nAt[i]? = some c) (hgv : (Jvm.Cond.and given_1 narrow_1).before args s = true) : c.before args s = true := flat_of_before _ hgv _ (List.mem_of_getElem? h)
theorem va_OF.inj {o n d : String} {v v2 : Value} {t : Nat} {A : Nat → Prop} {U : State} {H : Heap} (h : va_OF o n d v t A U H) (h2 : va_OF o n d v2 t A U H) : v = v2 := by
  obtain ⟨c, k, i, f, cell, a1, a2, a3, a4, a5, a6⟩ := h
  obtain ⟨c', k', i', f', cell', b1, b2, b3, b4, b5, b6⟩ := h2
  cases a1.symm.trans b1
  cases a3.symm.trans b3
  exact Option.some.inj (a5.symm.trans b5)
theorem va_T.inj {ty : FieldType} {t N N2 : Nat} {f g : Nat → Value} {A : Nat → Prop} {U : State} {H : Heap} (h : va_T ty t N f A U H) (h2 : va_T ty t N2 g A U H) (hN : N < 2147483648) (hN2 : N2 < 2147483648) : N = N2 ∧ ∀ j, j < N → f j = g j := by
  obtain ⟨cell, a1, a2, a3, a4, a5, a6, a7⟩ := h
  obtain ⟨cell', b1, b2, b3, b4, b5, b6, b7⟩ := h2
  cases a1.symm.trans b1
  have e : N = N2 := by
    have e1 := congrArg Int32.toNatClampNeg (a5.symm.trans b5)
    rwa [show (Int32.ofNat N).toNatClampNeg = N from nI_clamp (by omega), show (Int32.ofNat N2).toNatClampNeg = N2 from nI_clamp (by omega)] at e1
  subst e
  exact ⟨rfl, fun j hj => Option.some.inj ((a6 j hj).symm.trans (b6 j hj))⟩
theorem ex_ev {args : Array Value} {s : State} {t : Term} {nm : String} (hex : (Cond.exactly t nm).before args s = true) : ∃ a : Nat, t.eval args s none [] s = some (.ref a) := by
  obtain ⟨a, c, cA, kA, q1, -⟩ := Cond.exactly_spec (args := args) (first := s) (o := none) (s := s) (idx := []) (t := t) (cls := nm) hex
  exact ⟨a, q1⟩
def iEx : List Nat := [109, 112, 115, 118, 121, 124, 151, 154, 157, 160, 163, 127, 133, 136, 139, 130, 142, 169, 172, 166, 175, 178, 145, 148, 70, 73, 76, 79, 82, 85, 88, 91, 94, 97, 100, 103, 106, 64, 67, 58, 61, 7, 4]
def iOr : List Nat := [110, 113, 116, 119, 122, 125, 152, 155, 158, 161, 164, 128, 134, 137, 140, 131, 143, 170, 173, 167, 176, 179, 146, 149, 71, 74, 77, 80, 83, 86, 89, 92, 95, 98, 101, 104, 107, 65, 68, 59, 62, 8, 5]
def iWd : List Nat := [111, 114, 117, 120, 123, 126, 153, 156, 159, 162, 165, 129, 135, 138, 141, 132, 144, 171, 174, 168, 177, 180, 147, 150, 72, 75, 78, 81, 84, 87, 90, 93, 96, 99, 102, 105, 108, 66, 69, 60, 63, 9, 6]
def iKe : List Nat := [15, 16, 17, 18, 19, 20, 21, 22, 23, 24, 25, 26, 27, 28, 29, 30, 31, 32, 33, 34, 35, 36, 37, 38, 39, 40, 41, 42, 43, 44, 45, 46, 47, 48, 49, 50, 51, 52, 53, 54, 55, 56, 57]
def iLk : List Nat := [491, 518, 526, 537, 543, 549, 598, 600, 602, 604, 606, 567, 571, 573, 575, 569, 577, 624, 626, 620, 636, 638, 586, 588, 452, 454, 456, 458, 460, 462, 464, 466, 468, 470, 472, 474, 476, 445, 447, 432, 439, 409, 267]
def iWe : List Nat := [186, 187, 188, 189, 190, 191, 192, 193, 194, 195, 196, 197, 198, 199, 200, 201, 202, 203, 204, 205, 206, 207, 208, 209]
def iSe : List Nat := [632, 641, 647, 655, 662, 672, 680, 686, 694, 703, 709, 717, 724, 732, 740, 750, 759, 765, 775, 783, 790, 797, 803, 810]
def iSc : List Nat := [633, 642, 648, 656, 663, 673, 681, 687, 695, 704, 710, 718, 725, 733, 741, 751, 760, 766, 776, 784, 791, 798, 804, 811]
def iSa : List Nat := [634, 643, 649, 657, 664, 674, 682, 688, 696, 705, 711, 719, 726, 734, 742, 752, 761, 767, 777, 785, 792, 799, 805, 812]
def iSl : List Nat := [635, 644, 650, 658, 665, 675, 683, 689, 697, 706, 712, 720, 727, 735, 743, 753, 762, 768, 778, 786, 793, 800, 806, 813]
def kSt : List Nat := [431, 432, 433, 434, 436, 437, 438, 440, 442, 444, 446, 448, 450, 452, 454, 455, 457, 459, 461, 462, 464, 466, 468, 469]
def iSb : List (List Nat) := [[636, 637, 638, 639, 640], [645, 646], [651, 652, 653, 654], [659, 660, 661], [666, 667, 668, 669, 670, 671], [676, 677, 678, 679], [684, 685], [690, 691, 692, 693], [698, 699, 700, 701, 702], [707, 708], [713, 714, 715, 716], [721, 722, 723], [728, 729, 730, 731], [736, 737, 738, 739], [744, 745, 746, 747, 748, 749], [754, 755, 756, 757, 758], [763, 764], [769, 770, 771, 772, 773, 774], [779, 780, 781, 782], [787, 788, 789], [794, 795, 796], [801, 802], [807, 808, 809], [814, 815, 816]]
set_option maxRecDepth 100000 in
theorem g_ex : ∀ i, i < 43 → nAt[iEx.getD i 0]? = some (Cond.exactly (.static RX1 (kNm.getD i "") kD) RX1) := by decide +kernel
set_option maxRecDepth 100000 in
theorem g_or : ∀ i, i < 43 → nAt[iOr.getD i 0]? = some (Cond.eq (.field (.static RX1 (kNm.getD i "") kD) "java/lang/Enum" "ordinal" "I") (.int (Int32.ofNat i))) := by decide +kernel
set_option maxRecDepth 100000 in
theorem g_wd : ∀ i, i < 43 → nAt[iWd.getD i 0]? = some (Cond.eq (.field (.static RX1 (kNm.getD i "") kD) RX1 "word" "J") (.long (kWd.getD i 0))) := by decide +kernel
set_option maxRecDepth 100000 in
theorem g_ke : ∀ i, i < 43 → nAt[iKe.getD i 0]? = some (Cond.eq (.elem (.static RX8 "KINDS" "[LShadowRegistry$Kind;") (.int (Int32.ofNat i))) (.static RX1 (kNm.getD i "") kD)) := by decide +kernel
set_option maxRecDepth 100000 in
theorem g_lk : ∀ i, i < 43 → lw_tbl[iLk.getD i 0]? = some (Cond.laysStatic RX1 (kNm.getD i "") kD) := by decide +kernel
set_option maxRecDepth 100000 in
theorem g_we : ∀ i, i < 24 → nAt[iWe.getD i 0]? = some (Cond.eq (.elem (.static RX10 "WORDS" "[Ljava/lang/String;") (.int (Int32.ofNat i))) (.string RX10 (kSt.getD i 0))) := by decide +kernel
set_option maxRecDepth 100000 in
theorem g_se : ∀ i, i < 24 → nAt[iSe.getD i 0]? = some (Cond.exactly (.string RX10 (kSt.getD i 0)) "java/lang/String") := by decide +kernel
set_option maxRecDepth 100000 in
theorem g_sc : ∀ i, i < 24 → nAt[iSc.getD i 0]? = some (Cond.eq (.field (.string RX10 (kSt.getD i 0)) "java/lang/String" "coder" "B") (.int 0)) := by decide +kernel
set_option maxRecDepth 100000 in
theorem g_sa : ∀ i, i < 24 → nAt[iSa.getD i 0]? = some (Cond.arrayOf (.field (.string RX10 (kSt.getD i 0)) "java/lang/String" "value" "[B") .byte) := by decide +kernel
set_option maxRecDepth 100000 in
theorem g_sl : ∀ i, i < 24 → nAt[iSl.getD i 0]? = some (Cond.eq (.length (.field (.string RX10 (kSt.getD i 0)) "java/lang/String" "value" "[B")) (.int (Int32.ofNat (wLen.getD i 0)))) := by decide +kernel
set_option maxRecDepth 100000 in
theorem g_sb : ∀ i, i < 24 → ∀ j, j < wLen.getD i 0 → nAt[(iSb.getD i []).getD j 0]? = some (Cond.eq (.elem (.field (.string RX10 (kSt.getD i 0)) "java/lang/String" "value" "[B") (.int (Int32.ofNat j))) (.int ((wByt.getD i []).getD j 0))) := by decide +kernel
theorem wd_apart : ∀ i, i < 24 → ∀ j, j < 24 → wLen.getD i 0 = wLen.getD j 0 → (∀ k, k < wLen.getD i 0 → (wByt.getD i []).getD k 0 = (wByt.getD j []).getD k 0) → i = j := by decide +kernel
theorem wl_lt : ∀ i, i < 24 → wLen.getD i 0 < 7 := by decide +kernel
/-- the enum's constants -/
theorem w_kind {b : Nat} {s : State} (hts : ∀ w ∈ lw_tbl, w.before #[Value.ref b] s = true) (hgv : (Jvm.Cond.and given_1 narrow_1).before #[Value.ref b] s = true) {i : Nat} (hi : i < 43) : ∃ a : Nat, (Term.static RX1 (kNm.getD i "") kD).eval #[Value.ref b] s none [] s = some (.ref a) ∧ va_Z RX1 (kNm.getD i "") kD (.ref a) (fun q : Nat => s.heap.size ≤ q) s s.heap ∧ va_O RX1 a (fun q : Nat => s.heap.size ≤ q) s s.heap ∧ va_OF RX1 "word" "J" (.long (kWd.getD i 0)) a (fun q : Nat => s.heap.size ≤ q) s s.heap ∧ va_OF "java/lang/Enum" "ordinal" "I" (.int (Int32.ofNat i)) a (fun q : Nat => s.heap.size ≤ q) s s.heap := by
  have hex := n_get (g_ex i hi) hgv
  obtain ⟨a, ha⟩ := ex_ev hex
  have hA : ∀ q : Nat, q < s.heap.size → ¬ (fun q : Nat => s.heap.size ≤ q) q := fun q h h2 => absurd h (Nat.not_lt.mpr h2)
  exact ⟨a, ha, va_Zof (hts _ (List.mem_of_getElem? (g_lk i hi))) (hts _ (List.mem_of_getElem? (i := 104) (show lw_tbl[104]? = some (Cond.initialized RX1) by decide +kernel))) ha hA, va_Oof hex ha hA, vk_OFof ha (va_eqtl (n_get (g_wd i hi) hgv)) hA, vk_OFof ha (va_eqt (n_get (g_or i hi) hgv)) hA⟩
/-- a text -/
theorem w_text {b : Nat} {s : State} (hgv : (Jvm.Cond.and given_1 narrow_1).before #[Value.ref b] s = true) {i : Nat} (hi : i < 24) : ∃ a v : Nat, (Term.string RX10 (kSt.getD i 0)).eval #[Value.ref b] s none [] s = some (.ref a) ∧ va_O "java/lang/String" a (fun q : Nat => s.heap.size ≤ q) s s.heap ∧ va_OF "java/lang/String" "coder" "B" (.int 0) a (fun q : Nat => s.heap.size ≤ q) s s.heap ∧ va_OF "java/lang/String" "value" "[B" (.ref v) a (fun q : Nat => s.heap.size ≤ q) s s.heap ∧ va_T .byte v (wLen.getD i 0) (fun j => .int ((wByt.getD i []).getD j 0)) (fun q : Nat => s.heap.size ≤ q) s s.heap := by
  have hex := n_get (g_se i hi) hgv
  obtain ⟨a, ha⟩ := ex_ev hex
  have hA : ∀ q : Nat, q < s.heap.size → ¬ (fun q : Nat => s.heap.size ≤ q) q := fun q h h2 => absurd h (Nat.not_lt.mpr h2)
  obtain ⟨v, hv, hT⟩ := va_Tof (N := wLen.getD i 0) (f := fun j => .int ((wByt.getD i []).getD j 0)) (by have := wl_lt i hi; omega) (n_get (g_sa i hi) hgv) (va_eqt (n_get (g_sl i hi) hgv)) (fun j hj => va_eqt (n_get (g_sb i hi j hj) hgv)) hA
  exact ⟨a, v, ha, va_Oof hex ha hA, vk_OFof ha (va_eqt (n_get (g_sc i hi) hgv)) hA, vk_OFof ha hv hA, hT⟩
theorem w_cls {b : Nat} {s : State} (hts : ∀ w ∈ lw_tbl, w.before #[Value.ref b] s = true) : ∃ (dC : Nat → ClassId) (dI : Nat → Nat → Nat), ∀ (k : Nat) (q : vw_C), vwCl[k]? = some q → u_Kn s q.1 q.2.1 q.2.2 (dC k) (dI k) := by
  obtain ⟨c0, i0, h0⟩ := u_known (C := RX0) (T := TX0) (N := 10) (n := 10) hts (fun w hw => (List.mem_filter.mp (lay_X0 w hw)).1) (hts _ (List.mem_of_getElem? (i := 147) (show lw_tbl[147]? = some (Cond.instantiable RX0 10) by decide +kernel)))
  obtain ⟨c1, i1, h1⟩ := u_known (C := RX2) (T := TX2) (N := 6) (n := 6) hts (fun w hw => (List.mem_filter.mp (lay_X2 w hw)).1) (hts _ (List.mem_of_getElem? (i := 154) (show lw_tbl[154]? = some (Cond.instantiable RX2 6) by decide +kernel)))
  obtain ⟨c2, i2, h2⟩ := u_known (C := RX3) (T := TX3) (N := 9) (n := 9) hts (fun w hw => (List.mem_filter.mp (lay_X3 w hw)).1) (hts _ (List.mem_of_getElem? (i := 235) (show lw_tbl[235]? = some (Cond.instantiable RX3 9) by decide +kernel)))
  obtain ⟨c3, i3, h3⟩ := u_known (C := RX4) (T := TX4) (N := 3) (n := 3) hts (fun w hw => (List.mem_filter.mp (lay_X4 w hw)).1) (hts _ (List.mem_of_getElem? (i := 298) (show lw_tbl[298]? = some (Cond.instantiable RX4 3) by decide +kernel)))
  obtain ⟨c4, i4, h4⟩ := u_known (C := RX5) (T := TX5) (N := 11) (n := 11) hts (fun w hw => (List.mem_filter.mp (lay_X5 w hw)).1) (hts _ (List.mem_of_getElem? (i := 314) (show lw_tbl[314]? = some (Cond.instantiable RX5 11) by decide +kernel)))
  obtain ⟨c5, i5, h5⟩ := u_known (C := RX6) (T := TX6) (N := 2) (n := 2) hts (fun w hw => (List.mem_filter.mp (lay_X6 w hw)).1) (hts _ (List.mem_of_getElem? (i := 131) (show lw_tbl[131]? = some (Cond.instantiable RX6 2) by decide +kernel)))
  obtain ⟨c6, i6, h6⟩ := u_known (C := RX7) (T := TX7) (N := 5) (n := 5) hts (fun w hw => (List.mem_filter.mp (lay_X7 w hw)).1) (hts _ (List.mem_of_getElem? (i := 237) (show lw_tbl[237]? = some (Cond.instantiable RX7 5) by decide +kernel)))
  obtain ⟨c7, i7, h7⟩ := u_known (C := RX8) (T := TX8) (N := 8) (n := 8) hts (fun w hw => (List.mem_filter.mp (lay_X8 w hw)).1) (hts _ (List.mem_of_getElem? (i := 123) (show lw_tbl[123]? = some (Cond.instantiable RX8 8) by decide +kernel)))
  obtain ⟨c8, i8, h8⟩ := u_known (C := RX9) (T := TX9) (N := 13) (n := 13) hts (fun w hw => (List.mem_filter.mp (lay_X9 w hw)).1) (hts _ (List.mem_of_getElem? (i := 1192) (show lw_tbl[1192]? = some (Cond.instantiable RX9 13) by decide +kernel)))
  obtain ⟨c9, i9, h9⟩ := u_known (C := RX10) (T := TX10) (N := 26) (n := 26) hts (fun w hw => (List.mem_filter.mp (lay_X10 w hw)).1) (hts _ (List.mem_of_getElem? (i := 1186) (show lw_tbl[1186]? = some (Cond.instantiable RX10 26) by decide +kernel)))
  refine ⟨fun k => [c0, c1, c2, c3, c4, c5, c6, c7, c8, c9].getD k c0, fun k => [i0, i1, i2, i3, i4, i5, i6, i7, i8, i9].getD k i0, ?_⟩
  intro k q hq
  match k, hq with
  | 0, hq => cases hq; exact h0
  | 1, hq => cases hq; exact h1
  | 2, hq => cases hq; exact h2
  | 3, hq => cases hq; exact h3
  | 4, hq => cases hq; exact h4
  | 5, hq => cases hq; exact h5
  | 6, hq => cases hq; exact h6
  | 7, hq => cases hq; exact h7
  | 8, hq => cases hq; exact h8
  | 9, hq => cases hq; exact h9
  | k + 10, hq => exact absurd hq (by simp [vwCl])
theorem w_arr {b : Nat} {s : State} (hts : ∀ w ∈ lw_tbl, w.before #[Value.ref b] s = true) : ∃ zA : Nat → ClassId, ∀ (k : Nat) (q : ClassId × FieldType), [(zA 0, FieldType.int), (zA 1, .long), (zA 2, .byte), (zA 3, .object RX2), (zA 4, .object RX1)][k]? = some q → ArrOfT s q.1 q.2 ∧ va_RA s q.1 q.2 := by
  obtain ⟨c0, k0, m0, a0, b0, d0⟩ := Cond.arrayClass_spec (hts _ (List.mem_of_getElem? (i := 191) (show lw_tbl[191]? = some (Cond.arrayClass .int) by decide +kernel)))
  obtain ⟨c1, k1, m1, a1, b1, d1⟩ := Cond.arrayClass_spec (hts _ (List.mem_of_getElem? (i := 190) (show lw_tbl[190]? = some (Cond.arrayClass .long) by decide +kernel)))
  obtain ⟨c2, k2, m2, a2, b2, d2⟩ := Cond.arrayClass_spec (hts _ (List.mem_of_getElem? (i := 145) (show lw_tbl[145]? = some (Cond.arrayClass .byte) by decide +kernel)))
  obtain ⟨m3, c3, k3, e3, -, b3, d3, a3⟩ := Cond.arrayOver_spec (n := RX2) (args := #[Value.ref b]) (first := s) (o := none) (s := s) (idx := []) (hts _ (List.mem_of_getElem? (i := 153) (show lw_tbl[153]? = some (Cond.arrayOver (.object RX2)) by decide +kernel)))
  obtain ⟨m4, c4, k4, e4, -, b4, d4, a4⟩ := Cond.arrayOver_spec (n := RX1) (args := #[Value.ref b]) (first := s) (o := none) (s := s) (idx := []) (hts _ (List.mem_of_getElem? (i := 243) (show lw_tbl[243]? = some (Cond.arrayOver (.object RX1)) by decide +kernel)))
  refine ⟨fun k => [c0, c1, c2, c3, c4].getD k c0, fun k q hq => ?_⟩
  match k, hq with
  | 0, hq => cases hq; exact ⟨fun n z => ⟨fun k h => (by cases h), k0, b0, m0, d0⟩, a0⟩
  | 1, hq => cases hq; exact ⟨fun n z => ⟨fun k h => (by cases h), k1, b1, m1, d1⟩, a1⟩
  | 2, hq => cases hq; exact ⟨fun n z => ⟨fun k h => (by cases h), k2, b2, m2, d2⟩, a2⟩
  | 3, hq => cases hq; exact ⟨fun n z => ⟨fun k h => (by cases h), k3, b3, m3, d3⟩, k3, m3, b3, d3, e3, a3⟩
  | 4, hq => cases hq; exact ⟨fun n z => ⟨fun k h => (by cases h), k4, b4, m4, d4⟩, k4, m4, b4, d4, e4, a4⟩
  | k + 5, hq => exact absurd hq (by simp)
theorem nw_of {w : Cond} {args : Array Value} {s : State} (h : nwOk w = true) (hb : w.before args s = true) : va_Nw w s := by
  cases w with
  | fieldLinkNest a i b n d h => exact va_Nw.of rfl hb
  | methodLinkNest a i x h => exact va_Nw.of rfl hb
  | castable C T => exact va_Nw.of rfl hb
  | declares x => exact va_Nw.of rfl hb
  | arrayOver t =>
    cases t with
    | object C => exact va_AO.of hb
    | _ => exact absurd h (by simp [nwOk])
  | _ => exact absurd h (by simp [nwOk])
theorem pick {n : Nat} {P : Nat → Nat → Prop} (h : ∀ i, i < n → ∃ a, P i a) : ∃ f : Nat → Nat, ∀ i, i < n → P i (f i) := by
  refine ⟨fun i => if hi : i < n then (h i hi).choose else 0, fun i hi => ?_⟩
  have e : (fun i => if hi : i < n then (h i hi).choose else 0) i = (h i hi).choose := dif_pos hi
  exact (congrArg (P i) e).mpr (h i hi).choose_spec
theorem w_sr {b : Nat} {s : State} (hts : ∀ w ∈ lw_tbl, w.before #[Value.ref b] s = true) (hgv : (Jvm.Cond.and given_1 narrow_1).before #[Value.ref b] s = true) : SR s := by
  intro r hr
  simp only [strTab, List.mem_cons, List.not_mem_nil, or_false] at hr
  rcases hr with rfl | rfl | rfl | rfl | rfl | rfl | rfl | rfl | rfl | rfl | rfl | rfl | rfl
  · obtain ⟨a, ha⟩ := ex_ev (n_get (i := 284) (show nAt[284]? = some (Cond.exactly (.string "ShadowRegistry" 68) "java/lang/String") by decide +kernel) hgv)
    exact ⟨a, vk_R.of (hts _ (List.mem_of_getElem? (i := 906) (show lw_tbl[906]? = some (Cond.stringRef "ShadowRegistry" 68 "the tape is full") by decide +kernel))) ha⟩
  · obtain ⟨a, ha⟩ := ex_ev (n_get (i := 304) (show nAt[304]? = some (Cond.exactly (.string "ShadowRegistry" 79) "java/lang/String") by decide +kernel) hgv)
    exact ⟨a, vk_R.of (hts _ (List.mem_of_getElem? (i := 953) (show lw_tbl[953]? = some (Cond.stringRef "ShadowRegistry" 79 "the tape has not so many bytes") by decide +kernel))) ha⟩
  · obtain ⟨a, ha⟩ := ex_ev (n_get (i := 338) (show nAt[338]? = some (Cond.exactly (.string "ShadowRegistry" 114) "java/lang/String") by decide +kernel) hgv)
    exact ⟨a, vk_R.of (hts _ (List.mem_of_getElem? (i := 967) (show lw_tbl[967]? = some (Cond.stringRef "ShadowRegistry" 114 "there are no houses") by decide +kernel))) ha⟩
  · obtain ⟨a, ha⟩ := ex_ev (n_get (i := 361) (show nAt[361]? = some (Cond.exactly (.string "ShadowRegistry" 231) "java/lang/String") by decide +kernel) hgv)
    exact ⟨a, vk_R.of (hts _ (List.mem_of_getElem? (i := 997) (show lw_tbl[997]? = some (Cond.stringRef "ShadowRegistry" 231 "there is no such house") by decide +kernel))) ha⟩
  · obtain ⟨a, ha⟩ := ex_ev (n_get (i := 387) (show nAt[387]? = some (Cond.exactly (.string "ShadowRegistry" 234) "java/lang/String") by decide +kernel) hgv)
    exact ⟨a, vk_R.of (hts _ (List.mem_of_getElem? (i := 1043) (show lw_tbl[1043]? = some (Cond.stringRef "ShadowRegistry" 234 "its wall has no curfew") by decide +kernel))) ha⟩
  · obtain ⟨a, ha⟩ := ex_ev (n_get (i := 413) (show nAt[413]? = some (Cond.exactly (.string "ShadowRegistry" 236) "java/lang/String") by decide +kernel) hgv)
    exact ⟨a, vk_R.of (hts _ (List.mem_of_getElem? (i := 1068) (show lw_tbl[1068]? = some (Cond.stringRef "ShadowRegistry" 236 "there is no such hour") by decide +kernel))) ha⟩
  · obtain ⟨a, ha⟩ := ex_ev (n_get (i := 438) (show nAt[438]? = some (Cond.exactly (.string "ShadowRegistry" 162) "java/lang/String") by decide +kernel) hgv)
    exact ⟨a, vk_R.of (hts _ (List.mem_of_getElem? (i := 1102) (show lw_tbl[1102]? = some (Cond.stringRef "ShadowRegistry" 162 "it is not in the dark then") by decide +kernel))) ha⟩
  · obtain ⟨a, ha⟩ := ex_ev (n_get (i := 468) (show nAt[468]? = some (Cond.exactly (.string "ShadowRegistry" 172) "java/lang/String") by decide +kernel) hgv)
    exact ⟨a, vk_R.of (hts _ (List.mem_of_getElem? (i := 1118) (show lw_tbl[1118]? = some (Cond.stringRef "ShadowRegistry" 172 "these are no hours of a curfew") by decide +kernel))) ha⟩
  · obtain ⟨a, ha⟩ := ex_ev (n_get (i := 502) (show nAt[502]? = some (Cond.exactly (.string "ShadowRegistry" 178) "java/lang/String") by decide +kernel) hgv)
    exact ⟨a, vk_R.of (hts _ (List.mem_of_getElem? (i := 1134) (show lw_tbl[1134]? = some (Cond.stringRef "ShadowRegistry" 178 "no wall has this height") by decide +kernel))) ha⟩
  · obtain ⟨a, ha⟩ := ex_ev (n_get (i := 529) (show nAt[529]? = some (Cond.exactly (.string "ShadowRegistry" 183) "java/lang/String") by decide +kernel) hgv)
    exact ⟨a, vk_R.of (hts _ (List.mem_of_getElem? (i := 1143) (show lw_tbl[1143]? = some (Cond.stringRef "ShadowRegistry" 183 "the street has no such place") by decide +kernel))) ha⟩
  · obtain ⟨a, ha⟩ := ex_ev (n_get (i := 561) (show nAt[561]? = some (Cond.exactly (.string "ShadowRegistry" 185) "java/lang/String") by decide +kernel) hgv)
    exact ⟨a, vk_R.of (hts _ (List.mem_of_getElem? (i := 1144) (show lw_tbl[1144]? = some (Cond.stringRef "ShadowRegistry" 185 "another house stands there") by decide +kernel))) ha⟩
  · obtain ⟨a, ha⟩ := ex_ev (n_get (i := 591) (show nAt[591]? = some (Cond.exactly (.string "ShadowRegistry" 238) "java/lang/String") by decide +kernel) hgv)
    exact ⟨a, vk_R.of (hts _ (List.mem_of_getElem? (i := 1159) (show lw_tbl[1159]? = some (Cond.stringRef "ShadowRegistry" 238 "days are 1 to 30") by decide +kernel))) ha⟩
  · obtain ⟨a, ha⟩ := ex_ev (n_get (i := 611) (show nAt[611]? = some (Cond.exactly (.string "ShadowRegistry" 240) "java/lang/String") by decide +kernel) hgv)
    exact ⟨a, vk_R.of (hts _ (List.mem_of_getElem? (i := 1177) (show lw_tbl[1177]? = some (Cond.stringRef "ShadowRegistry" 240 "hours are 1 to 13") by decide +kernel))) ha⟩
theorem w_vn {b : Nat} {s : State} (hgv : (Jvm.Cond.and given_1 narrow_1).before #[Value.ref b] s = true) : VN s := by
  intro r hr
  simp only [vnTab, List.mem_cons, List.not_mem_nil, or_false] at hr
  rcases hr with rfl | rfl | rfl | rfl | rfl | rfl
  · exact va_Nc.of (n_get (i := 252) (show nAt[252]? = some (Cond.not (.castable "java/lang/IllegalStateException" "java/lang/IndexOutOfBoundsException")) by decide +kernel) hgv)
  · exact va_Nc.of (n_get (i := 253) (show nAt[253]? = some (Cond.not (.castable "java/lang/IllegalArgumentException" "java/lang/IndexOutOfBoundsException")) by decide +kernel) hgv)
  · exact va_Nc.of (n_get (i := 239) (show nAt[239]? = some (Cond.not (.castable "java/lang/IllegalStateException" "java/lang/IllegalArgumentException")) by decide +kernel) hgv)
  · exact va_Nc.of (n_get (i := 226) (show nAt[226]? = some (Cond.not (.castable "java/lang/IllegalArgumentException" "java/lang/IllegalStateException")) by decide +kernel) hgv)
  · exact va_Nc.of (n_get (i := 240) (show nAt[240]? = some (Cond.not (.castable "java/lang/IndexOutOfBoundsException" "java/lang/IllegalArgumentException")) by decide +kernel) hgv)
  · exact va_Nc.of (n_get (i := 227) (show nAt[227]? = some (Cond.not (.castable "java/lang/IndexOutOfBoundsException" "java/lang/IllegalStateException")) by decide +kernel) hgv)
/-- all of it -/
theorem w_all {b : Nat} {s : State} (hts : ∀ w ∈ lw_tbl, w.before #[Value.ref b] s = true) (hgv : (Jvm.Cond.and given_1 narrow_1).before #[Value.ref b] s = true) : ∃ Z : GZ, KW Z s ∧ SF Z (fun q : Nat => s.heap.size ≤ q) s s.heap := by
  have hA : ∀ q : Nat, q < s.heap.size → ¬ (fun q : Nat => s.heap.size ≤ q) q := fun q h h2 => absurd h (Nat.not_lt.mpr h2)
  obtain ⟨dC, dI, hKc⟩ := w_cls hts
  obtain ⟨zA, hZA⟩ := w_arr hts
  obtain ⟨ad, had⟩ : ∃ ad : Nat → Nat, ∀ i, i < 43 → (Term.static RX1 (kNm.getD i "") kD).eval #[Value.ref b] s none [] s = some (.ref (ad i)) ∧ va_Z RX1 (kNm.getD i "") kD (.ref (ad i)) (fun q : Nat => s.heap.size ≤ q) s s.heap ∧ va_O RX1 (ad i) (fun q : Nat => s.heap.size ≤ q) s s.heap ∧ va_OF RX1 "word" "J" (.long (kWd.getD i 0)) (ad i) (fun q : Nat => s.heap.size ≤ q) s s.heap ∧ va_OF "java/lang/Enum" "ordinal" "I" (.int (Int32.ofNat i)) (ad i) (fun q : Nat => s.heap.size ≤ q) s s.heap :=
    pick (fun i hi => w_kind hts hgv hi)
  obtain ⟨sk, hsk⟩ : ∃ sk : Nat → Nat, ∀ i, i < 24 → ∃ v : Nat, (Term.string RX10 (kSt.getD i 0)).eval #[Value.ref b] s none [] s = some (.ref (sk i)) ∧ va_O "java/lang/String" (sk i) (fun q : Nat => s.heap.size ≤ q) s s.heap ∧ va_OF "java/lang/String" "coder" "B" (.int 0) (sk i) (fun q : Nat => s.heap.size ≤ q) s s.heap ∧ va_OF "java/lang/String" "value" "[B" (.ref v) (sk i) (fun q : Nat => s.heap.size ≤ q) s s.heap ∧ va_T .byte v (wLen.getD i 0) (fun j => .int ((wByt.getD i []).getD j 0)) (fun q : Nat => s.heap.size ≤ q) s s.heap :=
    pick (fun i hi => w_text hgv hi)
  obtain ⟨sv, hsv⟩ : ∃ sv : Nat → Nat, ∀ i, i < 24 → (Term.string RX10 (kSt.getD i 0)).eval #[Value.ref b] s none [] s = some (.ref (sk i)) ∧ va_O "java/lang/String" (sk i) (fun q : Nat => s.heap.size ≤ q) s s.heap ∧ va_OF "java/lang/String" "coder" "B" (.int 0) (sk i) (fun q : Nat => s.heap.size ≤ q) s s.heap ∧ va_OF "java/lang/String" "value" "[B" (.ref (sv i)) (sk i) (fun q : Nat => s.heap.size ≤ q) s s.heap ∧ va_T .byte (sv i) (wLen.getD i 0) (fun j => .int ((wByt.getD i []).getD j 0)) (fun q : Nat => s.heap.size ≤ q) s s.heap :=
    pick (fun i hi => hsk i hi)
  obtain ⟨m0, hm0, hT0⟩ := va_Tof (N := 43) (f := fun j => .ref (ad j)) (A := (fun q : Nat => s.heap.size ≤ q)) (by decide) (n_get (i := 12) (show nAt[12]? = some (Cond.arrayOf (.static RX8 "KINDS" "[LShadowRegistry$Kind;") (.object RX1)) by decide +kernel) hgv) (va_eqt (n_get (i := 13) (show nAt[13]? = some (Cond.eq (.length (.static RX8 "KINDS" "[LShadowRegistry$Kind;")) (.int 43)) by decide +kernel) hgv)) (fun j hj => va_eqv (n_get (g_ke j hj) hgv) (had j hj).1) hA
  obtain ⟨m1, hm1, hT1⟩ := va_Tof (N := 24) (f := fun j => .ref (sk j)) (A := (fun q : Nat => s.heap.size ≤ q)) (by decide) (n_get (i := 184) (show nAt[184]? = some (Cond.arrayOf (.static RX10 "WORDS" "[Ljava/lang/String;") (.object "java/lang/String")) by decide +kernel) hgv) (va_eqt (n_get (i := 185) (show nAt[185]? = some (Cond.eq (.length (.static RX10 "WORDS" "[Ljava/lang/String;")) (.int 24)) by decide +kernel) hgv)) (fun j hj => va_eqv (n_get (g_we j hj) hgv) (hsv j hj).1) hA
  refine ⟨((dC, dI), zA, ad, fun k => if k = 0 then m0 else m1, sk, sv), ⟨⟨hKc, hZA⟩, fun w hw => ?_, w_sr hts hgv, ?_⟩, fun i hi => ⟨(had i hi).2.1, (had i hi).2.2.1, (had i hi).2.2.2.1⟩, fun i j hi hj e => ?_, ?_, hT0, ?_, hT1, ⟨fun i hi => (hsv i hi).2, fun i j hi hj e => ?_⟩, ?_, ?_, ?_, ?_⟩
  · obtain ⟨h1, h2⟩ := List.mem_filter.mp hw
    exact nw_of h2 (hts w h1)
  · obtain ⟨a, c, cA, kA, q1, q2, q3, q4, -⟩ := Cond.exactly_spec (args := #[Value.ref b]) (first := s) (o := none) (s := s) (idx := []) (cls := RX1) (n_get (g_ex 0 (by decide)) hgv)
    exact ⟨c, kA, q2, q4⟩
  · have e2 : ad i = ad j := e
    have h1 := (had i hi).2.2.2.2
    have h2 := (had j hj).2.2.2.2
    rw [e2] at h1
    have e3 := Value.int.inj (h1.inj h2)
    have e4 := congrArg Int32.toNatClampNeg e3
    rwa [show (Int32.ofNat i).toNatClampNeg = i from nI_clamp (by omega), show (Int32.ofNat j).toNatClampNeg = j from nI_clamp (by omega)] at e4
  · exact va_Zof (hts _ (List.mem_of_getElem? (i := 430) (show lw_tbl[430]? = some (Cond.laysStatic RX8 "KINDS" "[LShadowRegistry$Kind;") by decide +kernel))) (hts _ (List.mem_of_getElem? (i := 97) (show lw_tbl[97]? = some (Cond.initialized RX8) by decide +kernel))) hm0 hA
  · exact va_Zof (hts _ (List.mem_of_getElem? (i := 1388) (show lw_tbl[1388]? = some (Cond.laysStatic RX10 "WORDS" "[Ljava/lang/String;") by decide +kernel))) (hts _ (List.mem_of_getElem? (i := 107) (show lw_tbl[107]? = some (Cond.initialized RX10) by decide +kernel))) hm1 hA
  · have e2 : sk i = sk j := e
    obtain ⟨-, -, -, h1, h2⟩ := hsv i hi
    obtain ⟨-, -, -, g1, g2⟩ := hsv j hj
    rw [e2] at h1
    have e3 := Value.ref.inj (h1.inj g1)
    rw [e3] at h2
    have b1 := wl_lt i hi
    have b2 := wl_lt j hj
    obtain ⟨e4, e5⟩ := h2.inj g2 (by omega) (by omega)
    exact wd_apart i hi j hj e4 (fun k hk => Value.int.inj (e5 k hk))
  · exact va_Zof (hts _ (List.mem_of_getElem? (i := 1401) (show lw_tbl[1401]? = some (Cond.laysStatic "java/lang/String" "COMPACT_STRINGS" "Z") by decide +kernel))) (hts _ (List.mem_of_getElem? (i := 116) (show lw_tbl[116]? = some (Cond.initialized "java/lang/String") by decide +kernel))) (va_eqi (n_get (i := 210) (show nAt[210]? = some (Cond.eq (.static "java/lang/String" "COMPACT_STRINGS" "Z") (.int 1)) by decide +kernel) hgv)) hA
  · exact va_Zqof (hts _ (List.mem_of_getElem? (i := 1417) (show lw_tbl[1417]? = some (Cond.laysStatic "jdk/internal/util/Preconditions" "SIOOBE_FORMATTER" "Ljava/util/function/BiFunction;") by decide +kernel))) (hts _ (List.mem_of_getElem? (i := 118) (show lw_tbl[118]? = some (Cond.initialized "jdk/internal/util/Preconditions") by decide +kernel))) (n_get (i := 211) (show nAt[211]? = some (Cond.isRef (.static "jdk/internal/util/Preconditions" "SIOOBE_FORMATTER" "Ljava/util/function/BiFunction;")) by decide +kernel) hgv) hA
  · exact vx_Zqof (hts _ (List.mem_of_getElem? (i := 892) (show lw_tbl[892]? = some (Cond.laysStatic Bundle.tN "UNASSIGNED_STACK" Bundle.steD) by decide +kernel))) (hts _ (List.mem_of_getElem? (i := 109) (show lw_tbl[109]? = some (Cond.initialized Bundle.tN) by decide +kernel))) (n_get (i := 181) (show nAt[181]? = some (Cond.isRef (.static Bundle.tN "UNASSIGNED_STACK" Bundle.steD)) by decide +kernel) hgv) hA
  · exact vx_Zqof (hts _ (List.mem_of_getElem? (i := 894) (show lw_tbl[894]? = some (Cond.laysStatic Bundle.tN "SUPPRESSED_SENTINEL" Bundle.listD) by decide +kernel))) (hts _ (List.mem_of_getElem? (i := 109) (show lw_tbl[109]? = some (Cond.initialized Bundle.tN) by decide +kernel))) (n_get (i := 182) (show nAt[182]? = some (Cond.isRef (.static Bundle.tN "SUPPRESSED_SENTINEL" Bundle.listD)) by decide +kernel) hgv) hA
