theorem upd_two (f : Nat → Int32) (k : Nat) (x y : Int32) : upd (upd f k x) k y = upd f k y := by
  funext i
  by_cases e : i = k <;> simp [upd, e]
/-- rows of four, below k -/
def f4T (T : List Nat) (b : Nat) (f : Nat → Int32) (k : Nat) : Nat → Int32 := fun i => if i < k then pkT T (b + 4 * i) 4 else f i
theorem f4T_0 (T : List Nat) (b : Nat) (f : Nat → Int32) : f4T T b f 0 = f := by
  funext i
  simp [f4T]
theorem f4T_s (T : List Nat) (b : Nat) (f : Nat → Int32) (k : Nat) : upd (f4T T b f k) k (pkT T (b + 4 * k) 4) = f4T T b f (k + 1) := by
  funext i
  by_cases e : i = k
  · subst e; simp [upd, f4T]
  · have h : i < k ↔ i < k + 1 := by omega
    simp [upd, f4T, e, h]
theorem getD_in {T : List Nat} {i : Nat} (h : i < T.length) (d e : Nat) : T.getD i d = T.getD i e := by
  simp only [List.getD_eq_getElem?_getD, List.getElem?_eq_getElem h, Option.getD_some]
theorem getD_out {T : List Nat} {i : Nat} (h : T.length ≤ i) (d : Nat) : T.getD i d = d := by
  simp only [List.getD_eq_getElem?_getD, List.getElem?_eq_none h, Option.getD_none]
set_option maxRecDepth 100000 in
set_option maxHeartbeats 4000000 in
theorem c_L_taught {Z : GZ} {l : Launch} (hl : l.stackTraces = false) {x : Nat → Nat} {N u : Nat} {er dg co : Int32} {pP pH pF pT op f1 f2 l0 tb : Nat → Int32} {hh c0 c1 c2 c3 : Nat → Nat} {p h f t : Nat → Nat} {s y : Nat} {b : Nat → Int32} {T : List Nat} {w0 : va_W} (hC : CI Z x N u 0 er dg co pP pH pF pT op f1 f2 l0 hh c0 c1 c2 c3 (fun _ => 0) w0) (eq0 : EqS N pP pH pF pT p h f t) (ok0 : SnOk N p h f t) (hTx : TxT T b) (hT : ∀ i, T.getD i 32 < 128) (hl9 : T.length ≤ 1900) (hR : RdOk Z T.length (tbT T ((T.length + 19) / 20))) : Ct Z l yL_taught cL_taught 6 (some .int) (rmM 47 110 700) [.ref (x 0), .ref s] ((wTo Z s y ++ arrB Z y T.length b) ++ w0) (fun v9 w9 => ∃ w : va_W, w9 = w ∧ v9 = some (.int 0) ∧ ∃ (pP' pH' pF' pT' op' f1' f2' l0' : Nat → Int32) (c0' c1' c2' c3' : Nat → Nat), CI Z x (toN Z) (toM Z) 0 (-1) 0 0 pP' pH' pF' pT' op' f1' f2' l0' (toV Z) c0' c1' c2' c3' (tbT T ((T.length + 19) / 20)) w ∧ EqS (toN Z) pP' pH' pF' pT' (toP Z) (toH Z) zzN zzN ∧ DayOk Z op' f1' f2' l0' (toV Z) c0' c1' c2' c3' (toM Z)) := by
  refine Ct.ofJ (own := RL) (nm := "taught") (lv0 := [(0, .ref (x 0)), (1, .ref s)]) (by decide) rfl rfl (Nat.le_of_ble_eq_true rfl) rfl (fun X hXl C E => ?_)
  subst hXl
  refine J_room (rc2 := 110) (rs2 := 700) (Nat.le_refl _) (Nat.le_refl _) ?_
  refine J_iconst 5 C iL_taught_0 rfl ?_
  refine J_room (rc2 := 1 + 109) (rs2 := 5 + 695) (by omega) (by omega) ?_
  refine J_newI 5 C iL_taught_1 (tsg_in (i := 132) (by decide +kernel) rfl) (by decide) rfl (by omega) (fun n1 => ?_)
  refine J_ws (((wTo Z s y ++ arrB Z y T.length b) ++ w0) ++ arrI Z n1 5 (fun _ => 0)) rfl ?_
  refine J_perm (((wTo Z s y ++ arrB Z y T.length b) ++ arrI Z n1 5 (fun _ => 0)) ++ w0) (sw2 _ _ _) ?_
  refine J_perm (((wTo Z s y ++ arrI Z n1 5 (fun _ => 0)) ++ arrB Z y T.length b) ++ w0) ((sw2 _ _ _).append_right _) ?_
  refine J_perm (((arrI Z n1 5 (fun _ => 0) ++ wTo Z s y) ++ arrB Z y T.length b) ++ w0) ((List.perm_append_comm.append_right _).append_right _) ?_
  refine J_astore_n [(2, .ref n1), (0, .ref (x 0)), (1, .ref s)] C iL_taught_3 rfl (by decide) rfl ?_
  refine J_iconst 0 C iL_taught_4 rfl ?_
  refine J_istore_n [(3, .int 0), (2, .ref n1), (0, .ref (x 0)), (1, .ref s)] C iL_taught_5 rfl (by decide) rfl ?_
  refine J_room (rc2 := 1 + 1 * (100 - 0)) (rs2 := 6 + 6 * (100 - 0)) (by omega) (by omega) ?_
  refine J_lvm [(3, .int (nI (20 * 0))), (2, .ref n1), (1, .ref s), (0, .ref (x 0))] (by rfl) ?_
  refine J_forR (σ := (Nat → Int32) × va_W) (fun q => 1 + 1 * (100 - q)) (fun q => 6 + 6 * (100 - q)) (fun q q9 => [(3, .int (nI (20 * q))), (2, .ref n1), (1, .ref s), (0, .ref (x 0))]) (fun q q9 => (((arrI Z n1 5 q9.1 ++ wTo Z s y) ++ arrB Z y T.length b) ++ q9.2)) (fun q q9 => CI Z x N u (20 * q) er dg co pP pH pF pT op f1 f2 l0 hh c0 c1 c2 c3 (tbT T q) q9.2) ((T.length + 19) / 20) 0 ((fun _ => 0), w0) (by omega) (show CI Z x N u (20 * 0) er dg co pP pH pF pT op f1 f2 l0 hh c0 c1 c2 c3 (tbT T 0) w0 by rw [tbT_0]; exact hC) ?_ ?_
  · rintro ⟨fo1, wv1⟩ hI
    dsimp only at hI ⊢
    refine J_room (rc2 := 1) (rs2 := 6) (by omega) (by omega) ?_
    refine J_iload_n C iL_taught_6 rfl rfl ?_
    refine J_aload_n C iL_taught_7 rfl rfl ?_
    refine J_cVb (As := []) (st := .int (nI (20 * ((T.length + 19) / 20))) :: []) (rc2 := 1) (rs2 := 6) (w0 := (wTo Z s y ++ arrB Z y T.length b)) (q0 := 0) C iL_taught_8 lm_L_9 yc_J0_length_8abf5 yv_J0_length_8abf5 c_J0_length_D rfl rfl rfl (arrI Z n1 5 fo1) (wv1) (by simp only [List.append_assoc, List.append_nil, List.nil_append]) rfl ⟨Nat.le_of_ble_eq_true rfl, Nat.le_of_ble_eq_true rfl⟩ (Nat.le_of_ble_eq_true rfl) (Nat.zero_add _).symm (Nat.zero_add _).symm ?_
    rintro _ _ ⟨rfl, rfl⟩
    refine J_st (.int (nI T.length) :: .int (nI (20 * ((T.length + 19) / 20))) :: []) rfl ?_
    refine J_ws (((arrI Z n1 5 fo1 ++ wTo Z s y) ++ arrB Z y T.length b) ++ wv1) (by simp only [List.append_assoc, List.append_nil, List.nil_append]) ?_
    refine J_icmpge 119 C iL_taught_11 rfl (fun h11 => ?_) (fun h11 => absurd (nI_le (a := T.length) (b := 20 * ((T.length + 19) / 20)) (by omega) (by omega)) h11)
    refine J_aload_n C iL_taught_119 rfl rfl ?_
    refine J_aload_n C iL_taught_120 rfl rfl ?_
    refine J_cVb (As := []) (st := .ref (x 0) :: []) (rc2 := 1) (rs2 := 6) (w0 := (wTo Z s y ++ arrB Z y T.length b)) (q0 := 0) C iL_taught_121 lm_L_9 yc_J0_length_8abf5 yv_J0_length_8abf5 c_J0_length_D rfl rfl rfl (arrI Z n1 5 fo1) (wv1) (by simp only [List.append_assoc, List.append_nil, List.nil_append]) rfl ⟨Nat.le_of_ble_eq_true rfl, Nat.le_of_ble_eq_true rfl⟩ (Nat.le_of_ble_eq_true rfl) (Nat.zero_add _).symm (Nat.zero_add _).symm ?_
    rintro _ _ ⟨rfl, rfl⟩
    refine J_st (.int (nI T.length) :: .ref (x 0) :: []) rfl ?_
    refine J_ws (((arrI Z n1 5 fo1 ++ wTo Z s y) ++ arrB Z y T.length b) ++ wv1) (by simp only [List.append_assoc, List.append_nil, List.nil_append]) ?_
    obtain ⟨fs1, hf1⟩ := CI.head hI
    refine J_room (rc2 := 1 + 0) (rs2 := 6 + 0) (by omega) (by omega) ?_
    refine J_cVb (As := [.int (nI T.length)]) (st := []) (rc2 := 0) (rs2 := 0) (w0 := (wv1)) (q0 := 0) C iL_taught_124 lm_L_25 yc_X8_trim yv_X8_trim (k_trim hl hI eq0 ok0 (n := T.length) (by omega)) rfl rfl hf1 ((arrI Z n1 5 fo1 ++ wTo Z s y) ++ arrB Z y T.length b) [] (by simp only [List.append_assoc, List.append_nil, List.nil_append]) rfl ⟨Nat.le_of_ble_eq_true rfl, Nat.le_of_ble_eq_true rfl⟩ (Nat.le_of_ble_eq_true rfl) rfl rfl ?_
    rintro _ w1 ⟨rfl, hC1⟩
    refine J_st (.int (nI T.length) :: []) rfl ?_
    refine J_ws (((arrI Z n1 5 fo1 ++ wTo Z s y) ++ arrB Z y T.length b) ++ w1) (by simp only [List.append_assoc, List.append_nil, List.nil_append]) ?_
    refine J_pop C iL_taught_127 rfl ?_
    refine J_aload_n C iL_taught_128 rfl rfl ?_
    obtain ⟨fs2, hf2⟩ := CI.head hC1
    refine J_cVb (As := []) (st := []) (rc2 := 0) (rs2 := 0) (w0 := (w1)) (q0 := 0) C iL_taught_129 lm_L_29 yc_X8_teach yv_X8_teach (n_X8_teach hC1 hR) rfl rfl hf2 ((arrI Z n1 5 fo1 ++ wTo Z s y) ++ arrB Z y T.length b) [] (by simp only [List.append_assoc, List.append_nil, List.nil_append]) rfl ⟨Nat.le_of_ble_eq_true rfl, Nat.le_of_ble_eq_true rfl⟩ (Nat.le_of_ble_eq_true rfl) (Nat.zero_add _).symm (Nat.zero_add _).symm ?_
    rintro _ w2 ⟨rfl, hK2⟩
    refine J_st (.int 0 :: []) rfl ?_
    refine J_ws (((arrI Z n1 5 fo1 ++ wTo Z s y) ++ arrB Z y T.length b) ++ w2) (by simp only [List.append_assoc, List.append_nil, List.nil_append]) ?_
    refine J_drop [] ((arrI Z n1 5 fo1 ++ wTo Z s y) ++ arrB Z y T.length b) (w2) (by simp only [List.append_assoc, List.append_nil, List.nil_append]) ?_
    refine J_ws (w2) (by simp only [List.append_assoc, List.append_nil, List.nil_append]) ?_
    exact J_iret C E iL_taught_132 ⟨_, rfl, rfl, hK2⟩
  · rintro q ⟨fo1, wv1⟩ hq0 hq hI ih
    dsimp only at hI ⊢
    refine J_room (rc2 := 1 + 1 * (1 + 1 * (100 - (q + 1)))) (rs2 := 6 + 1 * (6 + 6 * (100 - (q + 1)))) (by omega) (by omega) ?_
    refine J_iload_n C iL_taught_6 rfl rfl ?_
    refine J_aload_n C iL_taught_7 rfl rfl ?_
    refine J_cVb (As := []) (st := .int (nI (20 * q)) :: []) (rc2 := 1 + 1 * (1 + 1 * (100 - (q + 1)))) (rs2 := 6 + 1 * (6 + 6 * (100 - (q + 1)))) (w0 := (wTo Z s y ++ arrB Z y T.length b)) (q0 := 0) C iL_taught_8 lm_L_9 yc_J0_length_8abf5 yv_J0_length_8abf5 c_J0_length_D rfl rfl rfl (arrI Z n1 5 fo1) (wv1) (by simp only [List.append_assoc, List.append_nil, List.nil_append]) rfl ⟨Nat.le_of_ble_eq_true rfl, Nat.le_of_ble_eq_true rfl⟩ (Nat.le_of_ble_eq_true rfl) (Nat.zero_add _).symm (Nat.zero_add _).symm ?_
    rintro _ _ ⟨rfl, rfl⟩
    refine J_st (.int (nI T.length) :: .int (nI (20 * q)) :: []) rfl ?_
    refine J_ws (((arrI Z n1 5 fo1 ++ wTo Z s y) ++ arrB Z y T.length b) ++ wv1) (by simp only [List.append_assoc, List.append_nil, List.nil_append]) ?_
    refine J_icmpge 119 C iL_taught_11 rfl (fun h11 => absurd h11 (nI_ge (a := 20 * q) (b := T.length) (by omega) (by omega))) (fun h11 => ?_)
    refine J_iconst 0 C iL_taught_14 rfl ?_
    refine J_istore [(4, .int 0), (3, .int (nI (20 * q))), (2, .ref n1), (1, .ref s), (0, .ref (x 0))] C iL_taught_15 (by decide) rfl ?_
    refine J_lvm [(4, .int (nI 0)), (3, .int (nI (20 * q))), (2, .ref n1), (1, .ref s), (0, .ref (x 0))] rfl ?_
    refine J_ws (((arrI Z n1 5 (f4T T (20 * q) fo1 0) ++ wTo Z s y) ++ arrB Z y T.length b) ++ wv1) (by rw [f4T_0]) ?_
    refine J_for (fun k => [(4, .int (nI k)), (3, .int (nI (20 * q))), (2, .ref n1), (1, .ref s), (0, .ref (x 0))]) (fun k => (((arrI Z n1 5 (f4T T (20 * q) fo1 k) ++ wTo Z s y) ++ arrB Z y T.length b) ++ wv1)) 5 0 (by omega) ?_ (fun k hk0 hk ihk => ?_)
    · refine J_iload C iL_taught_17 rfl ?_
      refine J_iconst 5 C iL_taught_19 rfl ?_
      refine J_icmpge 93 C iL_taught_20 rfl (fun h20 => ?_) (fun h20 => absurd (by decide) h20)
      refine J_aload_n C iL_taught_93 rfl rfl ?_
      refine J_aload_n C iL_taught_94 rfl rfl ?_
      refine J_iconst 0 C iL_taught_95 rfl ?_
      refine J_iald 0 C iL_taught_96 rfl (vp_in_nI (n := 0) (by omega) (by omega)) ?_
      rw [show Int32.toNatClampNeg 0 = 0 from rfl]
      refine J_st (.int (pkT T (20 * q) 4) :: .ref (x 0) :: []) rfl ?_
      refine J_aload_n C iL_taught_97 rfl rfl ?_
      refine J_iconst 1 C iL_taught_98 rfl ?_
      refine J_iald 0 C iL_taught_99 rfl (vp_in_nI (n := 1) (by omega) (by omega)) ?_
      rw [show Int32.toNatClampNeg 1 = 1 from rfl]
      refine J_st (.int (pkT T (20 * q + 4) 4) :: .int (pkT T (20 * q) 4) :: .ref (x 0) :: []) rfl ?_
      refine J_aload_n C iL_taught_100 rfl rfl ?_
      refine J_iconst 2 C iL_taught_101 rfl ?_
      refine J_iald 0 C iL_taught_102 rfl (vp_in_nI (n := 2) (by omega) (by omega)) ?_
      rw [show Int32.toNatClampNeg 2 = 2 from rfl]
      refine J_st (.int (pkT T (20 * q + 8) 4) :: .int (pkT T (20 * q + 4) 4) :: .int (pkT T (20 * q) 4) :: .ref (x 0) :: []) rfl ?_
      refine J_aload_n C iL_taught_103 rfl rfl ?_
      refine J_iconst 3 C iL_taught_104 rfl ?_
      refine J_iald 0 C iL_taught_105 rfl (vp_in_nI (n := 3) (by omega) (by omega)) ?_
      rw [show Int32.toNatClampNeg 3 = 3 from rfl]
      refine J_st (.int (pkT T (20 * q + 12) 4) :: .int (pkT T (20 * q + 8) 4) :: .int (pkT T (20 * q + 4) 4) :: .int (pkT T (20 * q) 4) :: .ref (x 0) :: []) rfl ?_
      refine J_aload_n C iL_taught_106 rfl rfl ?_
      refine J_iconst 4 C iL_taught_107 rfl ?_
      refine J_iald 0 C iL_taught_108 rfl (vp_in_nI (n := 4) (by omega) (by omega)) ?_
      rw [show Int32.toNatClampNeg 4 = 4 from rfl]
      refine J_st (.int (pkT T (20 * q + 16) 4) :: .int (pkT T (20 * q + 12) 4) :: .int (pkT T (20 * q + 8) 4) :: .int (pkT T (20 * q + 4) 4) :: .int (pkT T (20 * q) 4) :: .ref (x 0) :: []) rfl ?_
      obtain ⟨fs3, hf3⟩ := CI.head hI
      refine J_room (rc2 := 1 + (0 + 1 * (1 + 1 * (100 - (q + 1))))) (rs2 := 6 + (0 + 1 * (6 + 6 * (100 - (q + 1))))) (by omega) (by omega) ?_
      refine J_cVb (As := [.int (pkT T (20 * q) 4), .int (pkT T (20 * q + 4) 4), .int (pkT T (20 * q + 8) 4), .int (pkT T (20 * q + 12) 4), .int (pkT T (20 * q + 16) 4)]) (st := []) (rc2 := 0 + 1 * (1 + 1 * (100 - (q + 1)))) (rs2 := 0 + 1 * (6 + 6 * (100 - (q + 1)))) (w0 := (wv1)) (q0 := 0) C iL_taught_109 lm_L_19 yc_X8_feed yv_X8_feed (k_feed hl (i0 := (pkT T (20 * q) 4)) (i1 := (pkT T (20 * q + 4) 4)) (i2 := (pkT T (20 * q + 8) 4)) (i3 := (pkT T (20 * q + 12) 4)) (i4 := (pkT T (20 * q + 16) 4)) hI eq0 ok0 (by omega)) rfl rfl hf3 ((arrI Z n1 5 (f4T T (20 * q) fo1 5) ++ wTo Z s y) ++ arrB Z y T.length b) [] (by simp only [List.append_assoc, List.append_nil, List.nil_append]) rfl ⟨Nat.le_of_ble_eq_true rfl, Nat.le_of_ble_eq_true rfl⟩ (Nat.le_of_ble_eq_true rfl) rfl rfl ?_
      rintro _ w3 ⟨rfl, hC3⟩
      have hC3 : CI Z x N u (20 * (q + 1)) er dg co pP pH pF pT op f1 f2 l0 hh c0 c1 c2 c3 (tbT T (q + 1)) w3 := by rw [← ap_q hT q]; exact hC3
      refine J_st (.int (nI (20 * q + 20)) :: []) rfl ?_
      refine J_ws (((arrI Z n1 5 (f4T T (20 * q) fo1 5) ++ wTo Z s y) ++ arrB Z y T.length b) ++ w3) (by simp only [List.append_assoc, List.append_nil, List.nil_append]) ?_
      refine J_pop C iL_taught_112 rfl ?_
      refine J_iinc ((nI (20 * q)) + 20) [(3, .int ((nI (20 * q)) + 20)), (4, .int (nI 5)), (2, .ref n1), (1, .ref s), (0, .ref (x 0))] C iL_taught_113 rfl rfl (by decide) rfl ?_
      rw [show (nI (20 * q)) + 20 = nI ((20 * q) + 20) from nI_add _ _]
      refine J_goto 6 C iL_taught_116 rfl ?_
      refine J_lvm [(3, .int (nI ((20 * q) + 20))), (2, .ref n1), (1, .ref s), (0, .ref (x 0))] rfl ?_
      refine J_room (rc2 := 1 + 1 * (100 - (q + 1))) (rs2 := 6 + 6 * (100 - (q + 1))) (by omega) (by omega) ?_
      exact ih ((f4T T (20 * q) fo1 5), w3) hC3
    · refine J_iload C iL_taught_17 rfl ?_
      refine J_iconst 5 C iL_taught_19 rfl ?_
      refine J_icmpge 93 C iL_taught_20 rfl (fun h20 => absurd h20 (nI_ge (a := k) (b := 5) (by omega) (by decide))) (fun h20 => ?_)
      refine J_aload_n C iL_taught_23 rfl rfl ?_
      refine J_iload C iL_taught_24 rfl ?_
      refine J_iconst 0 C iL_taught_26 rfl ?_
      refine J_iast (((arrI Z n1 5 (upd (f4T T (20 * q) fo1 k) (nI k).toNatClampNeg 0) ++ wTo Z s y) ++ arrB Z y T.length b) ++ wv1) 0 C iL_taught_27 rfl (vp_in_nI (n := k) (by omega) (by omega)) rfl ?_
      rw [nI_clamp (n := k) (by omega)]
      refine J_iload_n C iL_taught_28 rfl rfl ?_
      refine J_iconst 4 C iL_taught_29 rfl ?_
      refine J_iload C iL_taught_30 rfl ?_
      refine J_imul C iL_taught_32 ?_
      rw [show (4 * (nI k) : Int32) = nI (4 * k) from pk_mul 4 k]
      refine J_iadd C iL_taught_33 ?_
      rw [show (nI (20 * q)) + (nI (4 * k)) = nI ((20 * q) + (4 * k)) from nI_add _ _]
      refine J_istore [(5, .int (nI ((20 * q) + (4 * k)))), (4, .int (nI k)), (3, .int (nI (20 * q))), (2, .ref n1), (1, .ref s), (0, .ref (x 0))] C iL_taught_34 (by decide) rfl ?_
      refine J_lvm [(5, .int (nI ((20 * q + 4 * k) + 0))), (4, .int (nI k)), (3, .int (nI (20 * q))), (2, .ref n1), (1, .ref s), (0, .ref (x 0))] rfl ?_
      refine J_ws (((arrI Z n1 5 (upd (f4T T (20 * q) fo1 k) k (pkT T (20 * q + 4 * k) 0)) ++ wTo Z s y) ++ arrB Z y T.length b) ++ wv1) (by rfl) ?_
      refine J_for (fun j => [(5, .int (nI ((20 * q + 4 * k) + j))), (4, .int (nI k)), (3, .int (nI (20 * q))), (2, .ref n1), (1, .ref s), (0, .ref (x 0))]) (fun j => (((arrI Z n1 5 (upd (f4T T (20 * q) fo1 k) k (pkT T (20 * q + 4 * k) j)) ++ wTo Z s y) ++ arrB Z y T.length b) ++ wv1)) 4 0 (by omega) ?_ (fun j hj0 hj ihj => ?_)
      · refine J_iload C iL_taught_36 rfl ?_
        refine J_iload_n C iL_taught_38 rfl rfl ?_
        refine J_iconst 4 C iL_taught_39 rfl ?_
        refine J_iload C iL_taught_40 rfl ?_
        refine J_imul C iL_taught_42 ?_
        rw [show (4 * (nI k) : Int32) = nI (4 * k) from pk_mul 4 k]
        refine J_iadd C iL_taught_43 ?_
        rw [show (nI (20 * q)) + (nI (4 * k)) = nI ((20 * q) + (4 * k)) from nI_add _ _]
        refine J_iconst 4 C iL_taught_44 rfl ?_
        refine J_iadd C iL_taught_45 ?_
        rw [show (nI ((20 * q) + (4 * k))) + 4 = nI (((20 * q) + (4 * k)) + 4) from nI_add _ _]
        refine J_icmpge 87 C iL_taught_46 rfl (fun h46 => ?_) (fun h46 => absurd (nI_le (a := (20 * q + 4 * k) + 4) (b := (20 * q + 4 * k) + 4) (by omega) (by omega)) h46)
        refine J_iinc ((nI k) + 1) [(4, .int ((nI k) + 1)), (5, .int (nI ((20 * q + 4 * k) + 4))), (3, .int (nI (20 * q))), (2, .ref n1), (1, .ref s), (0, .ref (x 0))] C iL_taught_87 rfl rfl (by decide) rfl ?_
        rw [show (nI k) + 1 = nI (k + 1) from nI_add _ _]
        refine J_goto 17 C iL_taught_90 rfl ?_
        refine J_lvm [(4, .int (nI (k + 1))), (3, .int (nI (20 * q))), (2, .ref n1), (1, .ref s), (0, .ref (x 0))] rfl ?_
        rw [f4T_s]
        exact ihk
      · refine J_iload C iL_taught_36 rfl ?_
        refine J_iload_n C iL_taught_38 rfl rfl ?_
        refine J_iconst 4 C iL_taught_39 rfl ?_
        refine J_iload C iL_taught_40 rfl ?_
        refine J_imul C iL_taught_42 ?_
        rw [show (4 * (nI k) : Int32) = nI (4 * k) from pk_mul 4 k]
        refine J_iadd C iL_taught_43 ?_
        rw [show (nI (20 * q)) + (nI (4 * k)) = nI ((20 * q) + (4 * k)) from nI_add _ _]
        refine J_iconst 4 C iL_taught_44 rfl ?_
        refine J_iadd C iL_taught_45 ?_
        rw [show (nI ((20 * q) + (4 * k))) + 4 = nI (((20 * q) + (4 * k)) + 4) from nI_add _ _]
        refine J_icmpge 87 C iL_taught_46 rfl (fun h46 => absurd h46 (nI_ge (a := (20 * q + 4 * k) + j) (b := (20 * q + 4 * k) + 4) (by omega) (by omega))) (fun h46 => ?_)
        refine J_aload_n C iL_taught_49 rfl rfl ?_
        refine J_iload C iL_taught_50 rfl ?_
        refine J_aload_n C iL_taught_52 rfl rfl ?_
        refine J_iload C iL_taught_53 rfl ?_
        refine J_iald 0 C iL_taught_55 rfl (vp_in_nI (n := k) (by omega) (by omega)) ?_
        rw [nI_clamp (n := k) (by omega)]
        rw [upd_s]
        refine J_bipush 8 C iL_taught_56 rfl ?_
        refine J_ishl C iL_taught_58 ?_
        refine J_iload C iL_taught_59 rfl ?_
        refine J_aload_n C iL_taught_61 rfl rfl ?_
        refine J_cVb (As := []) (st := .int (nI ((20 * q + 4 * k) + j)) :: .int ((pkT T (20 * q + 4 * k) j) <<< (8 &&& 31)) :: .int (nI k) :: .ref n1 :: []) (rc2 := 1 + 1 * (1 + 1 * (100 - (q + 1)))) (rs2 := 6 + 1 * (6 + 6 * (100 - (q + 1)))) (w0 := (wTo Z s y ++ arrB Z y T.length b)) (q0 := 0) C iL_taught_62 lm_L_9 yc_J0_length_8abf5 yv_J0_length_8abf5 c_J0_length_D rfl rfl rfl (arrI Z n1 5 (upd (f4T T (20 * q) fo1 k) k (pkT T (20 * q + 4 * k) j))) (wv1) (by simp only [List.append_assoc, List.append_nil, List.nil_append]) rfl ⟨Nat.le_of_ble_eq_true rfl, Nat.le_of_ble_eq_true rfl⟩ (Nat.le_of_ble_eq_true rfl) (Nat.zero_add _).symm (Nat.zero_add _).symm ?_
        rintro _ _ ⟨rfl, rfl⟩
        refine J_st (.int (nI T.length) :: .int (nI ((20 * q + 4 * k) + j)) :: .int ((pkT T (20 * q + 4 * k) j) <<< (8 &&& 31)) :: .int (nI k) :: .ref n1 :: []) rfl ?_
        refine J_ws (((arrI Z n1 5 (upd (f4T T (20 * q) fo1 k) k (pkT T (20 * q + 4 * k) j)) ++ wTo Z s y) ++ arrB Z y T.length b) ++ wv1) (by simp only [List.append_assoc, List.append_nil, List.nil_append]) ?_
        by_cases hch : (20 * q + 4 * k) + j < T.length
        · refine J_icmpge 77 C iL_taught_65 rfl (fun h65 => absurd h65 (nI_ge (a := ((20 * q + 4 * k) + j)) (b := T.length) (by omega) (by omega))) (fun h65 => ?_)
          refine J_aload_n C iL_taught_68 rfl rfl ?_
          refine J_iload C iL_taught_69 rfl ?_
          refine J_cVb (As := [.int (nI ((20 * q + 4 * k) + j))]) (st := .int ((pkT T (20 * q + 4 * k) j) <<< (8 &&& 31)) :: .int (nI k) :: .ref n1 :: []) (rc2 := 1 + 1 * (1 + 1 * (100 - (q + 1)))) (rs2 := 6 + 1 * (6 + 6 * (100 - (q + 1)))) (w0 := (wTo Z s y ++ arrB Z y T.length b)) (q0 := 0) C iL_taught_71 lm_L_15 yc_J0_charAt_5068e yv_J0_charAt_5068e (c_J0_charAt_5068e (j := ((20 * q + 4 * k) + j)) (c := T.getD ((20 * q + 4 * k) + j) 0) (by omega) (by omega) (hTx.2 ((20 * q + 4 * k) + j) (by omega)) (by rw [getD_in (by omega) 0 32]; exact hT _)) rfl rfl rfl (arrI Z n1 5 (upd (f4T T (20 * q) fo1 k) k (pkT T (20 * q + 4 * k) j))) (wv1) (by simp only [List.append_assoc, List.append_nil, List.nil_append]) rfl ⟨Nat.le_of_ble_eq_true rfl, Nat.le_of_ble_eq_true rfl⟩ (Nat.le_of_ble_eq_true rfl) (Nat.zero_add _).symm (Nat.zero_add _).symm ?_
          rintro _ _ ⟨rfl, rfl⟩
          refine J_st (.int (nI (T.getD ((20 * q + 4 * k) + j) 0)) :: .int ((pkT T (20 * q + 4 * k) j) <<< (8 &&& 31)) :: .int (nI k) :: .ref n1 :: []) rfl ?_
          refine J_ws (((arrI Z n1 5 (upd (f4T T (20 * q) fo1 k) k (pkT T (20 * q + 4 * k) j)) ++ wTo Z s y) ++ arrB Z y T.length b) ++ wv1) (by simp only [List.append_assoc, List.append_nil, List.nil_append]) ?_
          refine J_goto 79 C iL_taught_74 rfl ?_
          refine J_st (.int (nI (T.getD ((20 * q + 4 * k) + j) 32)) :: .int ((pkT T (20 * q + 4 * k) j) <<< (8 &&& 31)) :: .int (nI k) :: .ref n1 :: []) (congrArg (fun z => (.int z :: .int ((pkT T (20 * q + 4 * k) j) <<< (8 &&& 31)) :: .int (nI k) :: .ref n1 :: [] : List Value)) (show (nI (T.getD ((20 * q + 4 * k) + j) 0) : Int32) = nI (T.getD ((20 * q + 4 * k) + j) 32) from congrArg nI (getD_in (by omega) 0 32))) ?_
          refine J_ior C iL_taught_79 ?_
          refine J_iast (((arrI Z n1 5 (upd (upd (f4T T (20 * q) fo1 k) k (pkT T (20 * q + 4 * k) j)) (nI k).toNatClampNeg (((pkT T (20 * q + 4 * k) j) <<< (8 &&& 31)) ||| (nI (T.getD ((20 * q + 4 * k) + j) 32)))) ++ wTo Z s y) ++ arrB Z y T.length b) ++ wv1) 0 C iL_taught_80 rfl (vp_in_nI (n := k) (by omega) (by omega)) rfl ?_
          rw [nI_clamp (n := k) (by omega)]
          rw [upd_two]
          refine J_ws (((arrI Z n1 5 (upd (f4T T (20 * q) fo1 k) k (pkT T (20 * q + 4 * k) (j + 1))) ++ wTo Z s y) ++ arrB Z y T.length b) ++ wv1) rfl ?_
          refine J_iinc ((nI ((20 * q + 4 * k) + j)) + 1) [(5, .int ((nI ((20 * q + 4 * k) + j)) + 1)), (4, .int (nI k)), (3, .int (nI (20 * q))), (2, .ref n1), (1, .ref s), (0, .ref (x 0))] C iL_taught_81 rfl rfl (by decide) rfl ?_
          rw [show (nI ((20 * q + 4 * k) + j)) + 1 = nI (((20 * q + 4 * k) + j) + 1) from nI_add _ _]
          refine J_goto 36 C iL_taught_84 rfl ?_
          refine J_lvm [(5, .int (nI (((20 * q + 4 * k) + j) + 1))), (4, .int (nI k)), (3, .int (nI (20 * q))), (2, .ref n1), (1, .ref s), (0, .ref (x 0))] rfl ?_
          exact ihj
        · refine J_icmpge 77 C iL_taught_65 rfl (fun h65 => ?_) (fun h65 => absurd (nI_le (a := T.length) (b := ((20 * q + 4 * k) + j)) (by omega) (by omega)) h65)
          refine J_bipush 32 C iL_taught_77 rfl ?_
          refine J_st (.int (nI (T.getD ((20 * q + 4 * k) + j) 32)) :: .int ((pkT T (20 * q + 4 * k) j) <<< (8 &&& 31)) :: .int (nI k) :: .ref n1 :: []) (congrArg (fun z => (.int z :: .int ((pkT T (20 * q + 4 * k) j) <<< (8 &&& 31)) :: .int (nI k) :: .ref n1 :: [] : List Value)) (show (32 : Int32) = nI (T.getD ((20 * q + 4 * k) + j) 32) from congrArg nI (getD_out (by omega) 32).symm)) ?_
          refine J_ior C iL_taught_79 ?_
          refine J_iast (((arrI Z n1 5 (upd (upd (f4T T (20 * q) fo1 k) k (pkT T (20 * q + 4 * k) j)) (nI k).toNatClampNeg (((pkT T (20 * q + 4 * k) j) <<< (8 &&& 31)) ||| (nI (T.getD ((20 * q + 4 * k) + j) 32)))) ++ wTo Z s y) ++ arrB Z y T.length b) ++ wv1) 0 C iL_taught_80 rfl (vp_in_nI (n := k) (by omega) (by omega)) rfl ?_
          rw [nI_clamp (n := k) (by omega)]
          rw [upd_two]
          refine J_ws (((arrI Z n1 5 (upd (f4T T (20 * q) fo1 k) k (pkT T (20 * q + 4 * k) (j + 1))) ++ wTo Z s y) ++ arrB Z y T.length b) ++ wv1) rfl ?_
          refine J_iinc ((nI ((20 * q + 4 * k) + j)) + 1) [(5, .int ((nI ((20 * q + 4 * k) + j)) + 1)), (4, .int (nI k)), (3, .int (nI (20 * q))), (2, .ref n1), (1, .ref s), (0, .ref (x 0))] C iL_taught_81 rfl rfl (by decide) rfl ?_
          rw [show (nI ((20 * q + 4 * k) + j)) + 1 = nI (((20 * q + 4 * k) + j) + 1) from nI_add _ _]
          refine J_goto 36 C iL_taught_84 rfl ?_
          refine J_lvm [(5, .int (nI (((20 * q + 4 * k) + j) + 1))), (4, .int (nI k)), (3, .int (nI (20 * q))), (2, .ref n1), (1, .ref s), (0, .ref (x 0))] rfl ?_
          exact ihj

