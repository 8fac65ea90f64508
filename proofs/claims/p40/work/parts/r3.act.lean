set_option maxRecDepth 100000 in
set_option maxHeartbeats 4000000 in
theorem c_L_act {Z : GZ} {l : Launch} (hl : l.stackTraces = false) {x : Nat → Nat} {u tm : Nat} {er : Int32} {pP pH pF pT op f1 f2 l0 tb : Nat → Int32} {hh c0 c1 c2 c3 : Nat → Nat} {s hA lA oA tA eA : Nat} {rw lr p h f t : Nat → Nat} {fo ft fe : Nat → Option Nat} {L : List TC} {dy ca : Int32} {wc : va_W} {v : Int32} (hC : CI Z x (toN Z) u tm er dy ca pP pH pF pT op f1 f2 l0 hh c0 c1 c2 c3 tb wc) (eq0 : EqS (toN Z) pP pH pF pT p h f t) (ok0 : SnOk (toN Z) p h f t) (tr : TrOk Z (toM Z) L fo ft fe) (hd : DayOk Z op f1 f2 l0 hh c0 c1 c2 c3 u) : Ct Z l yL_act cL_act 9 (some .boolean) (rmM 20 130 400) [.ref (x 0), .ref s, .int v] ((((wSim Z s (toN Z) (toM Z) hA lA oA tA eA (fun j => some (rw j)) (fun j => some (lr j)) fo ft fe dy ca ++ wRw Z (toN Z) rw p h f t) ++ wPl Z L) ++ wLr Z (toM Z) lr (toK Z) (toV Z)) ++ wc) (fun v9 w => v9 = some (.int 1) ∧ LW Z x s hA lA oA tA eA rw lr fo ft fe L u tm er op f1 f2 l0 tb hh c0 c1 c2 c3 w) := by
  refine Ct.ofJ (own := RL) (nm := "act") (lv0 := [(0, .ref (x 0)), (1, .ref s), (2, .int v)]) (by decide) rfl rfl (Nat.le_of_ble_eq_true rfl) rfl (fun X hXl C E => ?_)
  subst hXl
  refine J_room (rc2 := 130) (rs2 := 400) (Nat.le_refl _) (Nat.le_refl _) ?_
  have hto := toN_in Z
  have hac := acM_in v
  have had := acD_in v
  refine J_aload_n C iL_act_0 rfl rfl ?_
  refine J_get (.ref hA) 0 C iL_act_1 gf_L_73 rfl rfl ?_
  refine J_alenN (t0 := 6) 1 C iL_act_4 rfl rfl ?_
  refine J_istore_n [(3, .int (nI (toN Z))), (0, .ref (x 0)), (1, .ref s), (2, .int v)] C iL_act_5 rfl (by decide) rfl ?_
  refine J_iload_n C iL_act_6 rfl rfl ?_
  refine J_iconst 3 C iL_act_7 rfl ?_
  refine J_ishr C iL_act_8 ?_
  refine J_iload_n C iL_act_9 rfl rfl ?_
  refine J_cSb (As := [.int (v >>> (3 &&& 31)), .int (nI (toN Z))]) (st := []) (rc2 := 130) (rs2 := 400) (w0 := []) C iL_act_10 lm_L_35 yc_L_below ys_L_below (c_L_below (x := v >>> (3 &&& 31)) (N := (toN Z)) (by omega) (by omega)) [] ((((wSim Z s (toN Z) (toM Z) hA lA oA tA eA (fun j => some (rw j)) (fun j => some (lr j)) fo ft fe dy ca ++ wRw Z (toN Z) rw p h f t) ++ wPl Z L) ++ wLr Z (toM Z) lr (toK Z) (toV Z)) ++ wc) (by simp only [List.append_assoc, List.append_nil, List.nil_append]) rfl ⟨Nat.le_of_ble_eq_true rfl, Nat.le_of_ble_eq_true rfl⟩ (Nat.le_of_ble_eq_true rfl) (Nat.zero_add _).symm (Nat.zero_add _).symm ?_
  rintro _ _ ⟨rfl, rfl⟩
  refine J_st (.int (nI (belN (v >>> (3 &&& 31)) (toN Z))) :: []) rfl ?_
  refine J_ws ((((wSim Z s (toN Z) (toM Z) hA lA oA tA eA (fun j => some (rw j)) (fun j => some (lr j)) fo ft fe dy ca ++ wRw Z (toN Z) rw p h f t) ++ wPl Z L) ++ wLr Z (toM Z) lr (toK Z) (toV Z)) ++ wc) (by simp only [List.append_assoc, List.append_nil, List.nil_append]) ?_
  generalize hqe : belN (v >>> (3 &&& 31)) (toN Z) = hq
  have hqn : hq < toN Z := by rw [← hqe]; exact belN_lt (by omega)
  clear hqe
  refine J_st (.int (nI hq) :: []) rfl ?_
  have hq9 := ok0.2 hq hqn
  refine J_istore [(4, .int (nI hq)), (3, .int (nI (toN Z))), (0, .ref (x 0)), (1, .ref s), (2, .int v)] C iL_act_13 (by decide) rfl ?_
  refine J_aload_n C iL_act_15 rfl rfl ?_
  refine J_get (.ref hA) 0 C iL_act_16 gf_L_73 rfl rfl ?_
  refine J_iload C iL_act_19 rfl ?_
  refine J_aaldA 1 C iL_act_21 rfl (vp_in_nI (n := hq) (by omega) (by omega)) ?_
  rw [nI_clamp (n := hq) (by omega)]
  refine J_st (.ref (rw hq) :: []) rfl ?_
  refine J_astore [(5, .ref (rw hq)), (4, .int (nI hq)), (3, .int (nI (toN Z))), (0, .ref (x 0)), (1, .ref s), (2, .int v)] C iL_act_22 (by decide) rfl ?_
  refine J_iload_n C iL_act_24 rfl rfl ?_
  refine J_bipush 9 C iL_act_25 rfl ?_
  refine J_cSb (As := [.int v, .int 9]) (st := []) (rc2 := 130) (rs2 := 400) (w0 := []) C iL_act_27 lm_L_35 yc_L_below ys_L_below (c_L_below (x := v) (N := 9) (by omega) (by omega)) [] ((((wSim Z s (toN Z) (toM Z) hA lA oA tA eA (fun j => some (rw j)) (fun j => some (lr j)) fo ft fe dy ca ++ wRw Z (toN Z) rw p h f t) ++ wPl Z L) ++ wLr Z (toM Z) lr (toK Z) (toV Z)) ++ wc) (by simp only [List.append_assoc, List.append_nil, List.nil_append]) rfl ⟨Nat.le_of_ble_eq_true rfl, Nat.le_of_ble_eq_true rfl⟩ (Nat.le_of_ble_eq_true rfl) (Nat.zero_add _).symm (Nat.zero_add _).symm ?_
  rintro _ _ ⟨rfl, rfl⟩
  refine J_st (.int (nI (belN v 9)) :: []) rfl ?_
  refine J_ws ((((wSim Z s (toN Z) (toM Z) hA lA oA tA eA (fun j => some (rw j)) (fun j => some (lr j)) fo ft fe dy ca ++ wRw Z (toN Z) rw p h f t) ++ wPl Z L) ++ wLr Z (toM Z) lr (toK Z) (toV Z)) ++ wc) (by simp only [List.append_assoc, List.append_nil, List.nil_append]) ?_
  have hb9 := belN_lt (x := v) (n := 9) (by decide)
  generalize belN v 9 = b9 at hb9 ⊢
  have hb : b9 = 0 ∨ b9 = 1 ∨ b9 = 2 ∨ b9 = 3 ∨ b9 = 4 ∨ b9 = 5 ∨ 6 ≤ b9 := by omega
  rcases hb with rfl | rfl | rfl | rfl | rfl | rfl | hb6
  · refine J_st (.int 0 :: []) rfl ?_
    refine J_tabIn 68 C iL_act_30 (by decide) (by decide) rfl rfl ?_
    refine J_aload C iL_act_68 rfl ?_
    refine J_iconst 2 C iL_act_70 rfl ?_
    refine J_bipush 6 C iL_act_71 rfl ?_
    refine J_iload_n C iL_act_73 rfl rfl ?_
    refine J_iconst 4 C iL_act_74 rfl ?_
    refine J_ishr C iL_act_75 ?_
    refine J_bipush 13 C iL_act_76 rfl ?_
    refine J_cSb (As := [.int (v >>> (4 &&& 31)), .int 13]) (st := .int 6 :: .int 2 :: .ref (rw hq) :: []) (rc2 := 130) (rs2 := 400) (w0 := []) C iL_act_78 lm_L_35 yc_L_below ys_L_below (c_L_below (x := v >>> (4 &&& 31)) (N := 13) (by omega) (by omega)) [] ((((wSim Z s (toN Z) (toM Z) hA lA oA tA eA (fun j => some (rw j)) (fun j => some (lr j)) fo ft fe dy ca ++ wRw Z (toN Z) rw p h f t) ++ wPl Z L) ++ wLr Z (toM Z) lr (toK Z) (toV Z)) ++ wc) (by simp only [List.append_assoc, List.append_nil, List.nil_append]) rfl ⟨Nat.le_of_ble_eq_true rfl, Nat.le_of_ble_eq_true rfl⟩ (Nat.le_of_ble_eq_true rfl) (Nat.zero_add _).symm (Nat.zero_add _).symm ?_
    rintro _ _ ⟨rfl, rfl⟩
    refine J_st (.int (nI (belN (v >>> (4 &&& 31)) 13)) :: .int 6 :: .int 2 :: .ref (rw hq) :: []) rfl ?_
    refine J_ws ((((wSim Z s (toN Z) (toM Z) hA lA oA tA eA (fun j => some (rw j)) (fun j => some (lr j)) fo ft fe dy ca ++ wRw Z (toN Z) rw p h f t) ++ wPl Z L) ++ wLr Z (toM Z) lr (toK Z) (toV Z)) ++ wc) (by simp only [List.append_assoc, List.append_nil, List.nil_append]) ?_
    refine J_iadd C iL_act_81 ?_
    rw [show (6 : Int32) + (nI (belN (v >>> (4 &&& 31)) 13)) = nI (6 + (belN (v >>> (4 &&& 31)) 13)) from nI_add _ _]
    have hn1 : 6 ≤ (6 + (belN (v >>> (4 &&& 31)) 13)) ∧ (6 + (belN (v >>> (4 &&& 31)) 13)) ≤ 18 := by have := belN_lt (x := v >>> (4 &&& 31)) (n := 13) (by decide); omega
    generalize n1_e : (6 + (belN (v >>> (4 &&& 31)) 13)) = n1_ at hn1 ⊢
    clear n1_e
    refine J_st (.int (nI n1_) :: .int 2 :: .ref (rw hq) :: []) rfl ?_
    refine J_iast (n := 4) (f := rowF p h f t hq) ((((wSim Z s (toN Z) (toM Z) hA lA oA tA eA (fun j => some (rw j)) (fun j => some (lr j)) fo ft fe dy ca ++ wRw Z (toN Z) rw p h (upN f hq n1_) t) ++ wPl Z L) ++ wLr Z (toM Z) lr (toK Z) (toV Z)) ++ wc) (((wSim Z s (toN Z) (toM Z) hA lA oA tA eA (fun j => some (rw j)) (fun j => some (lr j)) fo ft fe dy ca)).length + hq) C iL_act_82 (mid_at (A := (wSim Z s (toN Z) (toM Z) hA lA oA tA eA (fun j => some (rw j)) (fun j => some (lr j)) fo ft fe dy ca)) (M := wRw Z (toN Z) rw p h f t) (B := ((wPl Z L ++ wLr Z (toM Z) lr (toK Z) (toV Z)) ++ wc)) (by simp only [List.append_assoc, List.append_nil, List.nil_append]) (wRw_at (by omega))) (vp_in_nI (n := 2) (by decide) (by decide)) ?_ ?_
    · rw [show Int32.toNatClampNeg 2 = 2 from rfl]; rw [show nI n1_ = cuI n1_ from (cu_nI (by omega)).symm]; exact (mid_set (A := (wSim Z s (toN Z) (toM Z) hA lA oA tA eA (fun j => some (rw j)) (fun j => some (lr j)) fo ft fe dy ca)) (M := wRw Z (toN Z) rw p h f t) (B := ((wPl Z L ++ wLr Z (toM Z) lr (toK Z) (toV Z)) ++ wc)) (by simp only [List.append_assoc, List.append_nil, List.nil_append]) (by rw [wRw_len]; omega) (wRw_set (by omega) row_f (fun j hj hne => by simp [upN, hne]))).trans (by simp only [List.append_assoc, List.append_nil, List.nil_append])
    refine J_aload C iL_act_83 rfl ?_
    refine J_iconst 3 C iL_act_85 rfl ?_
    refine J_aload C iL_act_86 rfl ?_
    refine J_iconst 2 C iL_act_88 rfl ?_
    refine J_iald (n := 4) (f := rowF p h (upN f hq n1_) t hq) (((wSim Z s (toN Z) (toM Z) hA lA oA tA eA (fun j => some (rw j)) (fun j => some (lr j)) fo ft fe dy ca)).length + hq) C iL_act_89 (mid_at (A := (wSim Z s (toN Z) (toM Z) hA lA oA tA eA (fun j => some (rw j)) (fun j => some (lr j)) fo ft fe dy ca)) (M := wRw Z (toN Z) rw p h (upN f hq n1_) t) (B := ((wPl Z L ++ wLr Z (toM Z) lr (toK Z) (toV Z)) ++ wc)) (by simp only [List.append_assoc, List.append_nil, List.nil_append]) (wRw_at (by omega))) (vp_in_nI (n := 2) (by decide) (by decide)) ?_
    refine J_st (.int (cuI ((upN f hq n1_) hq)) :: .int 3 :: .ref (rw hq) :: []) rfl ?_
    rw [upN_s, cu_nI (show ¬ n1_ = 0 by omega)]
    refine J_iload_n C iL_act_90 rfl rfl ?_
    refine J_bipush 6 C iL_act_91 rfl ?_
    refine J_ishr C iL_act_93 ?_
    refine J_bipush 19 C iL_act_94 rfl ?_
    refine J_aload C iL_act_96 rfl ?_
    refine J_iconst 2 C iL_act_98 rfl ?_
    refine J_iald (n := 4) (f := rowF p h (upN f hq n1_) t hq) (((wSim Z s (toN Z) (toM Z) hA lA oA tA eA (fun j => some (rw j)) (fun j => some (lr j)) fo ft fe dy ca)).length + hq) C iL_act_99 (mid_at (A := (wSim Z s (toN Z) (toM Z) hA lA oA tA eA (fun j => some (rw j)) (fun j => some (lr j)) fo ft fe dy ca)) (M := wRw Z (toN Z) rw p h (upN f hq n1_) t) (B := ((wPl Z L ++ wLr Z (toM Z) lr (toK Z) (toV Z)) ++ wc)) (by simp only [List.append_assoc, List.append_nil, List.nil_append]) (wRw_at (by omega))) (vp_in_nI (n := 2) (by decide) (by decide)) ?_
    refine J_st (.int (cuI ((upN f hq n1_) hq)) :: .int 19 :: .int (v >>> (6 &&& 31)) :: .int (nI n1_) :: .int 3 :: .ref (rw hq) :: []) rfl ?_
    rw [upN_s, cu_nI (show ¬ n1_ = 0 by omega)]
    refine J_isub C iL_act_100 ?_
    rw [show 19 - (nI n1_) = nI (19 - n1_) from pk_sub (a := 19) (b := n1_) (by omega)]
    refine J_cSb (As := [.int (v >>> (6 &&& 31)), .int (nI (19 - n1_))]) (st := .int (nI n1_) :: .int 3 :: .ref (rw hq) :: []) (rc2 := 130) (rs2 := 400) (w0 := []) C iL_act_101 lm_L_35 yc_L_below ys_L_below (c_L_below (x := v >>> (6 &&& 31)) (N := (19 - n1_)) (by omega) (by omega)) [] ((((wSim Z s (toN Z) (toM Z) hA lA oA tA eA (fun j => some (rw j)) (fun j => some (lr j)) fo ft fe dy ca ++ wRw Z (toN Z) rw p h (upN f hq n1_) t) ++ wPl Z L) ++ wLr Z (toM Z) lr (toK Z) (toV Z)) ++ wc) (by simp only [List.append_assoc, List.append_nil, List.nil_append]) rfl ⟨Nat.le_of_ble_eq_true rfl, Nat.le_of_ble_eq_true rfl⟩ (Nat.le_of_ble_eq_true rfl) (Nat.zero_add _).symm (Nat.zero_add _).symm ?_
    rintro _ _ ⟨rfl, rfl⟩
    refine J_st (.int (nI (belN (v >>> (6 &&& 31)) (19 - n1_))) :: .int (nI n1_) :: .int 3 :: .ref (rw hq) :: []) rfl ?_
    refine J_ws ((((wSim Z s (toN Z) (toM Z) hA lA oA tA eA (fun j => some (rw j)) (fun j => some (lr j)) fo ft fe dy ca ++ wRw Z (toN Z) rw p h (upN f hq n1_) t) ++ wPl Z L) ++ wLr Z (toM Z) lr (toK Z) (toV Z)) ++ wc) (by simp only [List.append_assoc, List.append_nil, List.nil_append]) ?_
    refine J_iadd C iL_act_104 ?_
    rw [show (nI n1_) + (nI (belN (v >>> (6 &&& 31)) (19 - n1_))) = nI (n1_ + (belN (v >>> (6 &&& 31)) (19 - n1_))) from nI_add _ _]
    have hn2 : n1_ ≤ (n1_ + (belN (v >>> (6 &&& 31)) (19 - n1_))) ∧ (n1_ + (belN (v >>> (6 &&& 31)) (19 - n1_))) ≤ 18 := by have := belN_lt (x := v >>> (6 &&& 31)) (n := 19 - n1_) (by omega); omega
    generalize n2_e : (n1_ + (belN (v >>> (6 &&& 31)) (19 - n1_))) = n2_ at hn2 ⊢
    clear n2_e
    refine J_st (.int (nI n2_) :: .int 3 :: .ref (rw hq) :: []) rfl ?_
    refine J_iast (n := 4) (f := rowF p h (upN f hq n1_) t hq) ((((wSim Z s (toN Z) (toM Z) hA lA oA tA eA (fun j => some (rw j)) (fun j => some (lr j)) fo ft fe dy ca ++ wRw Z (toN Z) rw p h (upN f hq n1_) (upN t hq n2_)) ++ wPl Z L) ++ wLr Z (toM Z) lr (toK Z) (toV Z)) ++ wc) (((wSim Z s (toN Z) (toM Z) hA lA oA tA eA (fun j => some (rw j)) (fun j => some (lr j)) fo ft fe dy ca)).length + hq) C iL_act_105 (mid_at (A := (wSim Z s (toN Z) (toM Z) hA lA oA tA eA (fun j => some (rw j)) (fun j => some (lr j)) fo ft fe dy ca)) (M := wRw Z (toN Z) rw p h (upN f hq n1_) t) (B := ((wPl Z L ++ wLr Z (toM Z) lr (toK Z) (toV Z)) ++ wc)) (by simp only [List.append_assoc, List.append_nil, List.nil_append]) (wRw_at (by omega))) (vp_in_nI (n := 3) (by decide) (by decide)) ?_ ?_
    · rw [show Int32.toNatClampNeg 3 = 3 from rfl]; rw [show nI n2_ = cuI n2_ from (cu_nI (by omega)).symm]; exact (mid_set (A := (wSim Z s (toN Z) (toM Z) hA lA oA tA eA (fun j => some (rw j)) (fun j => some (lr j)) fo ft fe dy ca)) (M := wRw Z (toN Z) rw p h (upN f hq n1_) t) (B := ((wPl Z L ++ wLr Z (toM Z) lr (toK Z) (toV Z)) ++ wc)) (by simp only [List.append_assoc, List.append_nil, List.nil_append]) (by rw [wRw_len]; omega) (wRw_set (by omega) row_t (fun j hj hne => by simp [upN, hne]))).trans (by simp only [List.append_assoc, List.append_nil, List.nil_append])
    refine J_aload_n C iL_act_106 rfl rfl ?_
    refine J_iload C iL_act_107 rfl ?_
    refine J_aload C iL_act_109 rfl ?_
    refine J_iconst 2 C iL_act_111 rfl ?_
    refine J_iald (n := 4) (f := rowF p h (upN f hq n1_) (upN t hq n2_) hq) (((wSim Z s (toN Z) (toM Z) hA lA oA tA eA (fun j => some (rw j)) (fun j => some (lr j)) fo ft fe dy ca)).length + hq) C iL_act_112 (mid_at (A := (wSim Z s (toN Z) (toM Z) hA lA oA tA eA (fun j => some (rw j)) (fun j => some (lr j)) fo ft fe dy ca)) (M := wRw Z (toN Z) rw p h (upN f hq n1_) (upN t hq n2_)) (B := ((wPl Z L ++ wLr Z (toM Z) lr (toK Z) (toV Z)) ++ wc)) (by simp only [List.append_assoc, List.append_nil, List.nil_append]) (wRw_at (by omega))) (vp_in_nI (n := 2) (by decide) (by decide)) ?_
    refine J_st (.int (cuI ((upN f hq n1_) hq)) :: .int (nI hq) :: .ref (x 0) :: []) rfl ?_
    rw [upN_s, cu_nI (show ¬ n1_ = 0 by omega)]
    refine J_aload C iL_act_113 rfl ?_
    refine J_iconst 3 C iL_act_115 rfl ?_
    refine J_iald (n := 4) (f := rowF p h (upN f hq n1_) (upN t hq n2_) hq) (((wSim Z s (toN Z) (toM Z) hA lA oA tA eA (fun j => some (rw j)) (fun j => some (lr j)) fo ft fe dy ca)).length + hq) C iL_act_116 (mid_at (A := (wSim Z s (toN Z) (toM Z) hA lA oA tA eA (fun j => some (rw j)) (fun j => some (lr j)) fo ft fe dy ca)) (M := wRw Z (toN Z) rw p h (upN f hq n1_) (upN t hq n2_)) (B := ((wPl Z L ++ wLr Z (toM Z) lr (toK Z) (toV Z)) ++ wc)) (by simp only [List.append_assoc, List.append_nil, List.nil_append]) (wRw_at (by omega))) (vp_in_nI (n := 3) (by decide) (by decide)) ?_
    refine J_st (.int (cuI ((upN t hq n2_) hq)) :: .int (nI n1_) :: .int (nI hq) :: .ref (x 0) :: []) rfl ?_
    rw [upN_s, cu_nI (show ¬ n2_ = 0 by omega)]
    obtain ⟨fs1, hf1⟩ := CI.head hC
    refine J_room (rc2 := 2 + 128) (rs2 := 12 + 388) (by omega) (by omega) ?_
    refine J_cVb (As := [.int (nI hq), .int (nI n1_), .int (nI n2_)]) (st := []) (rc2 := 128) (rs2 := 388) (w0 := (wc)) (q0 := 0) C iL_act_117 lm_L_137 yc_X8_setCurfew yv_X8_setCurfew (k_setCurfew hl (a := hq) (y := n1_) (z := n2_) hC eq0 ok0 hqn (by omega) (by omega) (by omega)) rfl rfl hf1 (((wSim Z s (toN Z) (toM Z) hA lA oA tA eA (fun j => some (rw j)) (fun j => some (lr j)) fo ft fe dy ca ++ wRw Z (toN Z) rw p h (upN f hq n1_) (upN t hq n2_)) ++ wPl Z L) ++ wLr Z (toM Z) lr (toK Z) (toV Z)) [] (by simp only [List.append_assoc, List.append_nil, List.nil_append]) rfl ⟨Nat.le_of_ble_eq_true rfl, Nat.le_of_ble_eq_true rfl⟩ (Nat.le_of_ble_eq_true rfl) rfl rfl ?_
    rintro _ w1 ⟨rfl, hC1⟩
    refine J_st (.int (nI (alN p h (upN f hq n1_) (upN t hq n2_) (toN Z))) :: []) rfl ?_
    refine J_ws ((((wSim Z s (toN Z) (toM Z) hA lA oA tA eA (fun j => some (rw j)) (fun j => some (lr j)) fo ft fe dy ca ++ wRw Z (toN Z) rw p h (upN f hq n1_) (upN t hq n2_)) ++ wPl Z L) ++ wLr Z (toM Z) lr (toK Z) (toV Z)) ++ w1) (by simp only [List.append_assoc, List.append_nil, List.nil_append]) ?_
    refine J_aload_n C iL_act_120 rfl rfl ?_
    refine J_cVb (As := []) (st := .int (nI (alN p h (upN f hq n1_) (upN t hq n2_) (toN Z))) :: []) (rc2 := 128) (rs2 := 388) (w0 := (wSim Z s (toN Z) (toM Z) hA lA oA tA eA (fun j => some (rw j)) (fun j => some (lr j)) fo ft fe dy ca ++ wRw Z (toN Z) rw p h (upN f hq n1_) (upN t hq n2_))) (q0 := 0) C iL_act_121 lm_L_141 yc_X9_all yv_X9_all (c_X9_all (ok0.upC (Or.inr ⟨hn1.1, hn2.1, hn2.2⟩))) rfl rfl rfl [] ((wPl Z L ++ wLr Z (toM Z) lr (toK Z) (toV Z)) ++ w1) (by simp only [List.append_assoc, List.append_nil, List.nil_append]) rfl ⟨Nat.le_of_ble_eq_true rfl, Nat.le_of_ble_eq_true rfl⟩ (Nat.le_of_ble_eq_true rfl) (Nat.zero_add _).symm (Nat.zero_add _).symm ?_
    rintro _ _ ⟨rfl, rfl⟩
    refine J_st (.int (nI (alN p h (upN f hq n1_) (upN t hq n2_) (toN Z))) :: .int (nI (alN p h (upN f hq n1_) (upN t hq n2_) (toN Z))) :: []) rfl ?_
    refine J_ws ((((wSim Z s (toN Z) (toM Z) hA lA oA tA eA (fun j => some (rw j)) (fun j => some (lr j)) fo ft fe dy ca ++ wRw Z (toN Z) rw p h (upN f hq n1_) (upN t hq n2_)) ++ wPl Z L) ++ wLr Z (toM Z) lr (toK Z) (toV Z)) ++ w1) (by simp only [List.append_assoc, List.append_nil, List.nil_append]) ?_
    refine J_icmpne 131 C iL_act_124 rfl (fun h124 => absurd rfl h124) (fun h124 => ?_)
    refine J_iconst 1 C iL_act_127 rfl ?_
    refine J_goto 132 C iL_act_128 rfl ?_
    exact J_zret C E iL_act_132 rfl ⟨rfl, _, _, _, _, _, _, _, _, dy, ca, w1, rfl, hC1, (by have := eq0.upC (a := hq) (x := n1_) (y := n2_); rwa [cu_nI (show ¬ n1_ = 0 by omega), cu_nI (show ¬ n2_ = 0 by omega)] at this), (ok0.upC (Or.inr ⟨hn1.1, hn2.1, hn2.2⟩))⟩
  · refine J_st (.int 1 :: []) rfl ?_
    refine J_tabIn 68 C iL_act_30 (by decide) (by decide) rfl rfl ?_
    refine J_aload C iL_act_68 rfl ?_
    refine J_iconst 2 C iL_act_70 rfl ?_
    refine J_bipush 6 C iL_act_71 rfl ?_
    refine J_iload_n C iL_act_73 rfl rfl ?_
    refine J_iconst 4 C iL_act_74 rfl ?_
    refine J_ishr C iL_act_75 ?_
    refine J_bipush 13 C iL_act_76 rfl ?_
    refine J_cSb (As := [.int (v >>> (4 &&& 31)), .int 13]) (st := .int 6 :: .int 2 :: .ref (rw hq) :: []) (rc2 := 130) (rs2 := 400) (w0 := []) C iL_act_78 lm_L_35 yc_L_below ys_L_below (c_L_below (x := v >>> (4 &&& 31)) (N := 13) (by omega) (by omega)) [] ((((wSim Z s (toN Z) (toM Z) hA lA oA tA eA (fun j => some (rw j)) (fun j => some (lr j)) fo ft fe dy ca ++ wRw Z (toN Z) rw p h f t) ++ wPl Z L) ++ wLr Z (toM Z) lr (toK Z) (toV Z)) ++ wc) (by simp only [List.append_assoc, List.append_nil, List.nil_append]) rfl ⟨Nat.le_of_ble_eq_true rfl, Nat.le_of_ble_eq_true rfl⟩ (Nat.le_of_ble_eq_true rfl) (Nat.zero_add _).symm (Nat.zero_add _).symm ?_
    rintro _ _ ⟨rfl, rfl⟩
    refine J_st (.int (nI (belN (v >>> (4 &&& 31)) 13)) :: .int 6 :: .int 2 :: .ref (rw hq) :: []) rfl ?_
    refine J_ws ((((wSim Z s (toN Z) (toM Z) hA lA oA tA eA (fun j => some (rw j)) (fun j => some (lr j)) fo ft fe dy ca ++ wRw Z (toN Z) rw p h f t) ++ wPl Z L) ++ wLr Z (toM Z) lr (toK Z) (toV Z)) ++ wc) (by simp only [List.append_assoc, List.append_nil, List.nil_append]) ?_
    refine J_iadd C iL_act_81 ?_
    rw [show (6 : Int32) + (nI (belN (v >>> (4 &&& 31)) 13)) = nI (6 + (belN (v >>> (4 &&& 31)) 13)) from nI_add _ _]
    have hn1 : 6 ≤ (6 + (belN (v >>> (4 &&& 31)) 13)) ∧ (6 + (belN (v >>> (4 &&& 31)) 13)) ≤ 18 := by have := belN_lt (x := v >>> (4 &&& 31)) (n := 13) (by decide); omega
    generalize n1_e : (6 + (belN (v >>> (4 &&& 31)) 13)) = n1_ at hn1 ⊢
    clear n1_e
    refine J_st (.int (nI n1_) :: .int 2 :: .ref (rw hq) :: []) rfl ?_
    refine J_iast (n := 4) (f := rowF p h f t hq) ((((wSim Z s (toN Z) (toM Z) hA lA oA tA eA (fun j => some (rw j)) (fun j => some (lr j)) fo ft fe dy ca ++ wRw Z (toN Z) rw p h (upN f hq n1_) t) ++ wPl Z L) ++ wLr Z (toM Z) lr (toK Z) (toV Z)) ++ wc) (((wSim Z s (toN Z) (toM Z) hA lA oA tA eA (fun j => some (rw j)) (fun j => some (lr j)) fo ft fe dy ca)).length + hq) C iL_act_82 (mid_at (A := (wSim Z s (toN Z) (toM Z) hA lA oA tA eA (fun j => some (rw j)) (fun j => some (lr j)) fo ft fe dy ca)) (M := wRw Z (toN Z) rw p h f t) (B := ((wPl Z L ++ wLr Z (toM Z) lr (toK Z) (toV Z)) ++ wc)) (by simp only [List.append_assoc, List.append_nil, List.nil_append]) (wRw_at (by omega))) (vp_in_nI (n := 2) (by decide) (by decide)) ?_ ?_
    · rw [show Int32.toNatClampNeg 2 = 2 from rfl]; rw [show nI n1_ = cuI n1_ from (cu_nI (by omega)).symm]; exact (mid_set (A := (wSim Z s (toN Z) (toM Z) hA lA oA tA eA (fun j => some (rw j)) (fun j => some (lr j)) fo ft fe dy ca)) (M := wRw Z (toN Z) rw p h f t) (B := ((wPl Z L ++ wLr Z (toM Z) lr (toK Z) (toV Z)) ++ wc)) (by simp only [List.append_assoc, List.append_nil, List.nil_append]) (by rw [wRw_len]; omega) (wRw_set (by omega) row_f (fun j hj hne => by simp [upN, hne]))).trans (by simp only [List.append_assoc, List.append_nil, List.nil_append])
    refine J_aload C iL_act_83 rfl ?_
    refine J_iconst 3 C iL_act_85 rfl ?_
    refine J_aload C iL_act_86 rfl ?_
    refine J_iconst 2 C iL_act_88 rfl ?_
    refine J_iald (n := 4) (f := rowF p h (upN f hq n1_) t hq) (((wSim Z s (toN Z) (toM Z) hA lA oA tA eA (fun j => some (rw j)) (fun j => some (lr j)) fo ft fe dy ca)).length + hq) C iL_act_89 (mid_at (A := (wSim Z s (toN Z) (toM Z) hA lA oA tA eA (fun j => some (rw j)) (fun j => some (lr j)) fo ft fe dy ca)) (M := wRw Z (toN Z) rw p h (upN f hq n1_) t) (B := ((wPl Z L ++ wLr Z (toM Z) lr (toK Z) (toV Z)) ++ wc)) (by simp only [List.append_assoc, List.append_nil, List.nil_append]) (wRw_at (by omega))) (vp_in_nI (n := 2) (by decide) (by decide)) ?_
    refine J_st (.int (cuI ((upN f hq n1_) hq)) :: .int 3 :: .ref (rw hq) :: []) rfl ?_
    rw [upN_s, cu_nI (show ¬ n1_ = 0 by omega)]
    refine J_iload_n C iL_act_90 rfl rfl ?_
    refine J_bipush 6 C iL_act_91 rfl ?_
    refine J_ishr C iL_act_93 ?_
    refine J_bipush 19 C iL_act_94 rfl ?_
    refine J_aload C iL_act_96 rfl ?_
    refine J_iconst 2 C iL_act_98 rfl ?_
    refine J_iald (n := 4) (f := rowF p h (upN f hq n1_) t hq) (((wSim Z s (toN Z) (toM Z) hA lA oA tA eA (fun j => some (rw j)) (fun j => some (lr j)) fo ft fe dy ca)).length + hq) C iL_act_99 (mid_at (A := (wSim Z s (toN Z) (toM Z) hA lA oA tA eA (fun j => some (rw j)) (fun j => some (lr j)) fo ft fe dy ca)) (M := wRw Z (toN Z) rw p h (upN f hq n1_) t) (B := ((wPl Z L ++ wLr Z (toM Z) lr (toK Z) (toV Z)) ++ wc)) (by simp only [List.append_assoc, List.append_nil, List.nil_append]) (wRw_at (by omega))) (vp_in_nI (n := 2) (by decide) (by decide)) ?_
    refine J_st (.int (cuI ((upN f hq n1_) hq)) :: .int 19 :: .int (v >>> (6 &&& 31)) :: .int (nI n1_) :: .int 3 :: .ref (rw hq) :: []) rfl ?_
    rw [upN_s, cu_nI (show ¬ n1_ = 0 by omega)]
    refine J_isub C iL_act_100 ?_
    rw [show 19 - (nI n1_) = nI (19 - n1_) from pk_sub (a := 19) (b := n1_) (by omega)]
    refine J_cSb (As := [.int (v >>> (6 &&& 31)), .int (nI (19 - n1_))]) (st := .int (nI n1_) :: .int 3 :: .ref (rw hq) :: []) (rc2 := 130) (rs2 := 400) (w0 := []) C iL_act_101 lm_L_35 yc_L_below ys_L_below (c_L_below (x := v >>> (6 &&& 31)) (N := (19 - n1_)) (by omega) (by omega)) [] ((((wSim Z s (toN Z) (toM Z) hA lA oA tA eA (fun j => some (rw j)) (fun j => some (lr j)) fo ft fe dy ca ++ wRw Z (toN Z) rw p h (upN f hq n1_) t) ++ wPl Z L) ++ wLr Z (toM Z) lr (toK Z) (toV Z)) ++ wc) (by simp only [List.append_assoc, List.append_nil, List.nil_append]) rfl ⟨Nat.le_of_ble_eq_true rfl, Nat.le_of_ble_eq_true rfl⟩ (Nat.le_of_ble_eq_true rfl) (Nat.zero_add _).symm (Nat.zero_add _).symm ?_
    rintro _ _ ⟨rfl, rfl⟩
    refine J_st (.int (nI (belN (v >>> (6 &&& 31)) (19 - n1_))) :: .int (nI n1_) :: .int 3 :: .ref (rw hq) :: []) rfl ?_
    refine J_ws ((((wSim Z s (toN Z) (toM Z) hA lA oA tA eA (fun j => some (rw j)) (fun j => some (lr j)) fo ft fe dy ca ++ wRw Z (toN Z) rw p h (upN f hq n1_) t) ++ wPl Z L) ++ wLr Z (toM Z) lr (toK Z) (toV Z)) ++ wc) (by simp only [List.append_assoc, List.append_nil, List.nil_append]) ?_
    refine J_iadd C iL_act_104 ?_
    rw [show (nI n1_) + (nI (belN (v >>> (6 &&& 31)) (19 - n1_))) = nI (n1_ + (belN (v >>> (6 &&& 31)) (19 - n1_))) from nI_add _ _]
    have hn2 : n1_ ≤ (n1_ + (belN (v >>> (6 &&& 31)) (19 - n1_))) ∧ (n1_ + (belN (v >>> (6 &&& 31)) (19 - n1_))) ≤ 18 := by have := belN_lt (x := v >>> (6 &&& 31)) (n := 19 - n1_) (by omega); omega
    generalize n2_e : (n1_ + (belN (v >>> (6 &&& 31)) (19 - n1_))) = n2_ at hn2 ⊢
    clear n2_e
    refine J_st (.int (nI n2_) :: .int 3 :: .ref (rw hq) :: []) rfl ?_
    refine J_iast (n := 4) (f := rowF p h (upN f hq n1_) t hq) ((((wSim Z s (toN Z) (toM Z) hA lA oA tA eA (fun j => some (rw j)) (fun j => some (lr j)) fo ft fe dy ca ++ wRw Z (toN Z) rw p h (upN f hq n1_) (upN t hq n2_)) ++ wPl Z L) ++ wLr Z (toM Z) lr (toK Z) (toV Z)) ++ wc) (((wSim Z s (toN Z) (toM Z) hA lA oA tA eA (fun j => some (rw j)) (fun j => some (lr j)) fo ft fe dy ca)).length + hq) C iL_act_105 (mid_at (A := (wSim Z s (toN Z) (toM Z) hA lA oA tA eA (fun j => some (rw j)) (fun j => some (lr j)) fo ft fe dy ca)) (M := wRw Z (toN Z) rw p h (upN f hq n1_) t) (B := ((wPl Z L ++ wLr Z (toM Z) lr (toK Z) (toV Z)) ++ wc)) (by simp only [List.append_assoc, List.append_nil, List.nil_append]) (wRw_at (by omega))) (vp_in_nI (n := 3) (by decide) (by decide)) ?_ ?_
    · rw [show Int32.toNatClampNeg 3 = 3 from rfl]; rw [show nI n2_ = cuI n2_ from (cu_nI (by omega)).symm]; exact (mid_set (A := (wSim Z s (toN Z) (toM Z) hA lA oA tA eA (fun j => some (rw j)) (fun j => some (lr j)) fo ft fe dy ca)) (M := wRw Z (toN Z) rw p h (upN f hq n1_) t) (B := ((wPl Z L ++ wLr Z (toM Z) lr (toK Z) (toV Z)) ++ wc)) (by simp only [List.append_assoc, List.append_nil, List.nil_append]) (by rw [wRw_len]; omega) (wRw_set (by omega) row_t (fun j hj hne => by simp [upN, hne]))).trans (by simp only [List.append_assoc, List.append_nil, List.nil_append])
    refine J_aload_n C iL_act_106 rfl rfl ?_
    refine J_iload C iL_act_107 rfl ?_
    refine J_aload C iL_act_109 rfl ?_
    refine J_iconst 2 C iL_act_111 rfl ?_
    refine J_iald (n := 4) (f := rowF p h (upN f hq n1_) (upN t hq n2_) hq) (((wSim Z s (toN Z) (toM Z) hA lA oA tA eA (fun j => some (rw j)) (fun j => some (lr j)) fo ft fe dy ca)).length + hq) C iL_act_112 (mid_at (A := (wSim Z s (toN Z) (toM Z) hA lA oA tA eA (fun j => some (rw j)) (fun j => some (lr j)) fo ft fe dy ca)) (M := wRw Z (toN Z) rw p h (upN f hq n1_) (upN t hq n2_)) (B := ((wPl Z L ++ wLr Z (toM Z) lr (toK Z) (toV Z)) ++ wc)) (by simp only [List.append_assoc, List.append_nil, List.nil_append]) (wRw_at (by omega))) (vp_in_nI (n := 2) (by decide) (by decide)) ?_
    refine J_st (.int (cuI ((upN f hq n1_) hq)) :: .int (nI hq) :: .ref (x 0) :: []) rfl ?_
    rw [upN_s, cu_nI (show ¬ n1_ = 0 by omega)]
    refine J_aload C iL_act_113 rfl ?_
    refine J_iconst 3 C iL_act_115 rfl ?_
    refine J_iald (n := 4) (f := rowF p h (upN f hq n1_) (upN t hq n2_) hq) (((wSim Z s (toN Z) (toM Z) hA lA oA tA eA (fun j => some (rw j)) (fun j => some (lr j)) fo ft fe dy ca)).length + hq) C iL_act_116 (mid_at (A := (wSim Z s (toN Z) (toM Z) hA lA oA tA eA (fun j => some (rw j)) (fun j => some (lr j)) fo ft fe dy ca)) (M := wRw Z (toN Z) rw p h (upN f hq n1_) (upN t hq n2_)) (B := ((wPl Z L ++ wLr Z (toM Z) lr (toK Z) (toV Z)) ++ wc)) (by simp only [List.append_assoc, List.append_nil, List.nil_append]) (wRw_at (by omega))) (vp_in_nI (n := 3) (by decide) (by decide)) ?_
    refine J_st (.int (cuI ((upN t hq n2_) hq)) :: .int (nI n1_) :: .int (nI hq) :: .ref (x 0) :: []) rfl ?_
    rw [upN_s, cu_nI (show ¬ n2_ = 0 by omega)]
    obtain ⟨fs2, hf2⟩ := CI.head hC
    refine J_room (rc2 := 2 + 128) (rs2 := 12 + 388) (by omega) (by omega) ?_
    refine J_cVb (As := [.int (nI hq), .int (nI n1_), .int (nI n2_)]) (st := []) (rc2 := 128) (rs2 := 388) (w0 := (wc)) (q0 := 0) C iL_act_117 lm_L_137 yc_X8_setCurfew yv_X8_setCurfew (k_setCurfew hl (a := hq) (y := n1_) (z := n2_) hC eq0 ok0 hqn (by omega) (by omega) (by omega)) rfl rfl hf2 (((wSim Z s (toN Z) (toM Z) hA lA oA tA eA (fun j => some (rw j)) (fun j => some (lr j)) fo ft fe dy ca ++ wRw Z (toN Z) rw p h (upN f hq n1_) (upN t hq n2_)) ++ wPl Z L) ++ wLr Z (toM Z) lr (toK Z) (toV Z)) [] (by simp only [List.append_assoc, List.append_nil, List.nil_append]) rfl ⟨Nat.le_of_ble_eq_true rfl, Nat.le_of_ble_eq_true rfl⟩ (Nat.le_of_ble_eq_true rfl) rfl rfl ?_
    rintro _ w2 ⟨rfl, hC2⟩
    refine J_st (.int (nI (alN p h (upN f hq n1_) (upN t hq n2_) (toN Z))) :: []) rfl ?_
    refine J_ws ((((wSim Z s (toN Z) (toM Z) hA lA oA tA eA (fun j => some (rw j)) (fun j => some (lr j)) fo ft fe dy ca ++ wRw Z (toN Z) rw p h (upN f hq n1_) (upN t hq n2_)) ++ wPl Z L) ++ wLr Z (toM Z) lr (toK Z) (toV Z)) ++ w2) (by simp only [List.append_assoc, List.append_nil, List.nil_append]) ?_
    refine J_aload_n C iL_act_120 rfl rfl ?_
    refine J_cVb (As := []) (st := .int (nI (alN p h (upN f hq n1_) (upN t hq n2_) (toN Z))) :: []) (rc2 := 128) (rs2 := 388) (w0 := (wSim Z s (toN Z) (toM Z) hA lA oA tA eA (fun j => some (rw j)) (fun j => some (lr j)) fo ft fe dy ca ++ wRw Z (toN Z) rw p h (upN f hq n1_) (upN t hq n2_))) (q0 := 0) C iL_act_121 lm_L_141 yc_X9_all yv_X9_all (c_X9_all (ok0.upC (Or.inr ⟨hn1.1, hn2.1, hn2.2⟩))) rfl rfl rfl [] ((wPl Z L ++ wLr Z (toM Z) lr (toK Z) (toV Z)) ++ w2) (by simp only [List.append_assoc, List.append_nil, List.nil_append]) rfl ⟨Nat.le_of_ble_eq_true rfl, Nat.le_of_ble_eq_true rfl⟩ (Nat.le_of_ble_eq_true rfl) (Nat.zero_add _).symm (Nat.zero_add _).symm ?_
    rintro _ _ ⟨rfl, rfl⟩
    refine J_st (.int (nI (alN p h (upN f hq n1_) (upN t hq n2_) (toN Z))) :: .int (nI (alN p h (upN f hq n1_) (upN t hq n2_) (toN Z))) :: []) rfl ?_
    refine J_ws ((((wSim Z s (toN Z) (toM Z) hA lA oA tA eA (fun j => some (rw j)) (fun j => some (lr j)) fo ft fe dy ca ++ wRw Z (toN Z) rw p h (upN f hq n1_) (upN t hq n2_)) ++ wPl Z L) ++ wLr Z (toM Z) lr (toK Z) (toV Z)) ++ w2) (by simp only [List.append_assoc, List.append_nil, List.nil_append]) ?_
    refine J_icmpne 131 C iL_act_124 rfl (fun h124 => absurd rfl h124) (fun h124 => ?_)
    refine J_iconst 1 C iL_act_127 rfl ?_
    refine J_goto 132 C iL_act_128 rfl ?_
    exact J_zret C E iL_act_132 rfl ⟨rfl, _, _, _, _, _, _, _, _, dy, ca, w2, rfl, hC2, (by have := eq0.upC (a := hq) (x := n1_) (y := n2_); rwa [cu_nI (show ¬ n1_ = 0 by omega), cu_nI (show ¬ n2_ = 0 by omega)] at this), (ok0.upC (Or.inr ⟨hn1.1, hn2.1, hn2.2⟩))⟩
  · refine J_st (.int 2 :: []) rfl ?_
    refine J_tabIn 133 C iL_act_30 (by decide) (by decide) rfl rfl ?_
    refine J_aload C iL_act_133 rfl ?_
    refine J_iconst 2 C iL_act_135 rfl ?_
    refine J_iald (n := 4) (f := rowF p h f t hq) (((wSim Z s (toN Z) (toM Z) hA lA oA tA eA (fun j => some (rw j)) (fun j => some (lr j)) fo ft fe dy ca)).length + hq) C iL_act_136 (mid_at (A := (wSim Z s (toN Z) (toM Z) hA lA oA tA eA (fun j => some (rw j)) (fun j => some (lr j)) fo ft fe dy ca)) (M := wRw Z (toN Z) rw p h f t) (B := ((wPl Z L ++ wLr Z (toM Z) lr (toK Z) (toV Z)) ++ wc)) (by simp only [List.append_assoc, List.append_nil, List.nil_append]) (wRw_at (by omega))) (vp_in_nI (n := 2) (by decide) (by decide)) ?_
    refine J_st (.int (cuI (f hq)) :: []) rfl ?_
    by_cases hf0 : f hq = 0
    · refine J_ifge 142 C iL_act_137 rfl (fun h137 => absurd h137 (Int32.not_le.mpr ((cu_neg (by omega)).mpr hf0))) (fun h137 => ?_)
      refine J_iconst 1 C iL_act_140 rfl ?_
      exact J_zret C E iL_act_141 rfl ⟨rfl, pP, pH, pF, pT, p, h, f, t, dy, ca, wc, rfl, hC, eq0, ok0⟩
    · refine J_ifge 142 C iL_act_137 rfl (fun h137 => ?_) (fun h137 => absurd (Int32.not_lt.mp (fun q => hf0 ((cu_neg (by omega)).mp q))) h137)
      refine J_aload C iL_act_142 rfl ?_
      refine J_iconst 2 C iL_act_144 rfl ?_
      refine J_iconst (-1) C iL_act_145 rfl ?_
      refine J_iast (n := 4) (f := rowF p h f t hq) ((((wSim Z s (toN Z) (toM Z) hA lA oA tA eA (fun j => some (rw j)) (fun j => some (lr j)) fo ft fe dy ca ++ wRw Z (toN Z) rw p h (upN f hq 0) t) ++ wPl Z L) ++ wLr Z (toM Z) lr (toK Z) (toV Z)) ++ wc) (((wSim Z s (toN Z) (toM Z) hA lA oA tA eA (fun j => some (rw j)) (fun j => some (lr j)) fo ft fe dy ca)).length + hq) C iL_act_146 (mid_at (A := (wSim Z s (toN Z) (toM Z) hA lA oA tA eA (fun j => some (rw j)) (fun j => some (lr j)) fo ft fe dy ca)) (M := wRw Z (toN Z) rw p h f t) (B := ((wPl Z L ++ wLr Z (toM Z) lr (toK Z) (toV Z)) ++ wc)) (by simp only [List.append_assoc, List.append_nil, List.nil_append]) (wRw_at (by omega))) (vp_in_nI (n := 2) (by decide) (by decide)) ?_ ?_
      · rw [show Int32.toNatClampNeg 2 = 2 from rfl]; rw [show (-1) = cuI 0 from rfl]; exact (mid_set (A := (wSim Z s (toN Z) (toM Z) hA lA oA tA eA (fun j => some (rw j)) (fun j => some (lr j)) fo ft fe dy ca)) (M := wRw Z (toN Z) rw p h f t) (B := ((wPl Z L ++ wLr Z (toM Z) lr (toK Z) (toV Z)) ++ wc)) (by simp only [List.append_assoc, List.append_nil, List.nil_append]) (by rw [wRw_len]; omega) (wRw_set (by omega) row_f (fun j hj hne => by simp [upN, hne]))).trans (by simp only [List.append_assoc, List.append_nil, List.nil_append])
      refine J_aload C iL_act_147 rfl ?_
      refine J_iconst 3 C iL_act_149 rfl ?_
      refine J_iconst (-1) C iL_act_150 rfl ?_
      refine J_iast (n := 4) (f := rowF p h (upN f hq 0) t hq) ((((wSim Z s (toN Z) (toM Z) hA lA oA tA eA (fun j => some (rw j)) (fun j => some (lr j)) fo ft fe dy ca ++ wRw Z (toN Z) rw p h (upN f hq 0) (upN t hq 0)) ++ wPl Z L) ++ wLr Z (toM Z) lr (toK Z) (toV Z)) ++ wc) (((wSim Z s (toN Z) (toM Z) hA lA oA tA eA (fun j => some (rw j)) (fun j => some (lr j)) fo ft fe dy ca)).length + hq) C iL_act_151 (mid_at (A := (wSim Z s (toN Z) (toM Z) hA lA oA tA eA (fun j => some (rw j)) (fun j => some (lr j)) fo ft fe dy ca)) (M := wRw Z (toN Z) rw p h (upN f hq 0) t) (B := ((wPl Z L ++ wLr Z (toM Z) lr (toK Z) (toV Z)) ++ wc)) (by simp only [List.append_assoc, List.append_nil, List.nil_append]) (wRw_at (by omega))) (vp_in_nI (n := 3) (by decide) (by decide)) ?_ ?_
      · rw [show Int32.toNatClampNeg 3 = 3 from rfl]; rw [show (-1) = cuI 0 from rfl]; exact (mid_set (A := (wSim Z s (toN Z) (toM Z) hA lA oA tA eA (fun j => some (rw j)) (fun j => some (lr j)) fo ft fe dy ca)) (M := wRw Z (toN Z) rw p h (upN f hq 0) t) (B := ((wPl Z L ++ wLr Z (toM Z) lr (toK Z) (toV Z)) ++ wc)) (by simp only [List.append_assoc, List.append_nil, List.nil_append]) (by rw [wRw_len]; omega) (wRw_set (by omega) row_t (fun j hj hne => by simp [upN, hne]))).trans (by simp only [List.append_assoc, List.append_nil, List.nil_append])
      refine J_aload_n C iL_act_152 rfl rfl ?_
      refine J_iload C iL_act_153 rfl ?_
      obtain ⟨fs3, hf3⟩ := CI.head hC
      refine J_room (rc2 := 2 + 128) (rs2 := 12 + 388) (by omega) (by omega) ?_
      refine J_cVb (As := [.int (nI hq)]) (st := []) (rc2 := 128) (rs2 := 388) (w0 := (wc)) (q0 := 0) C iL_act_155 lm_L_144 yc_X8_endCurfew yv_X8_endCurfew (k_endCurfew hl (a := hq) hC eq0 ok0 hqn hf0) rfl rfl hf3 (((wSim Z s (toN Z) (toM Z) hA lA oA tA eA (fun j => some (rw j)) (fun j => some (lr j)) fo ft fe dy ca ++ wRw Z (toN Z) rw p h (upN f hq 0) (upN t hq 0)) ++ wPl Z L) ++ wLr Z (toM Z) lr (toK Z) (toV Z)) [] (by simp only [List.append_assoc, List.append_nil, List.nil_append]) rfl ⟨Nat.le_of_ble_eq_true rfl, Nat.le_of_ble_eq_true rfl⟩ (Nat.le_of_ble_eq_true rfl) rfl rfl ?_
      rintro _ w3 ⟨rfl, hC3⟩
      refine J_st (.int (nI (alN p h (upN f hq 0) (upN t hq 0) (toN Z))) :: []) rfl ?_
      refine J_ws ((((wSim Z s (toN Z) (toM Z) hA lA oA tA eA (fun j => some (rw j)) (fun j => some (lr j)) fo ft fe dy ca ++ wRw Z (toN Z) rw p h (upN f hq 0) (upN t hq 0)) ++ wPl Z L) ++ wLr Z (toM Z) lr (toK Z) (toV Z)) ++ w3) (by simp only [List.append_assoc, List.append_nil, List.nil_append]) ?_
      refine J_aload_n C iL_act_158 rfl rfl ?_
      refine J_cVb (As := []) (st := .int (nI (alN p h (upN f hq 0) (upN t hq 0) (toN Z))) :: []) (rc2 := 128) (rs2 := 388) (w0 := (wSim Z s (toN Z) (toM Z) hA lA oA tA eA (fun j => some (rw j)) (fun j => some (lr j)) fo ft fe dy ca ++ wRw Z (toN Z) rw p h (upN f hq 0) (upN t hq 0))) (q0 := 0) C iL_act_159 lm_L_141 yc_X9_all yv_X9_all (c_X9_all (ok0.upC (Or.inl ⟨rfl, rfl⟩))) rfl rfl rfl [] ((wPl Z L ++ wLr Z (toM Z) lr (toK Z) (toV Z)) ++ w3) (by simp only [List.append_assoc, List.append_nil, List.nil_append]) rfl ⟨Nat.le_of_ble_eq_true rfl, Nat.le_of_ble_eq_true rfl⟩ (Nat.le_of_ble_eq_true rfl) (Nat.zero_add _).symm (Nat.zero_add _).symm ?_
      rintro _ _ ⟨rfl, rfl⟩
      refine J_st (.int (nI (alN p h (upN f hq 0) (upN t hq 0) (toN Z))) :: .int (nI (alN p h (upN f hq 0) (upN t hq 0) (toN Z))) :: []) rfl ?_
      refine J_ws ((((wSim Z s (toN Z) (toM Z) hA lA oA tA eA (fun j => some (rw j)) (fun j => some (lr j)) fo ft fe dy ca ++ wRw Z (toN Z) rw p h (upN f hq 0) (upN t hq 0)) ++ wPl Z L) ++ wLr Z (toM Z) lr (toK Z) (toV Z)) ++ w3) (by simp only [List.append_assoc, List.append_nil, List.nil_append]) ?_
      refine J_icmpne 169 C iL_act_162 rfl (fun h162 => absurd rfl h162) (fun h162 => ?_)
      refine J_iconst 1 C iL_act_165 rfl ?_
      refine J_goto 170 C iL_act_166 rfl ?_
      exact J_zret C E iL_act_170 rfl ⟨rfl, _, _, _, _, _, _, _, _, dy, ca, w3, rfl, hC3, (eq0.upC (a := hq) (x := 0) (y := 0)), (ok0.upC (Or.inl ⟨rfl, rfl⟩))⟩
  · refine J_st (.int 3 :: []) rfl ?_
    refine J_tabIn 171 C iL_act_30 (by decide) (by decide) rfl rfl ?_
    refine J_aload C iL_act_171 rfl ?_
    refine J_iconst 1 C iL_act_173 rfl ?_
    refine J_iald (n := 4) (f := rowF p h f t hq) (((wSim Z s (toN Z) (toM Z) hA lA oA tA eA (fun j => some (rw j)) (fun j => some (lr j)) fo ft fe dy ca)).length + hq) C iL_act_174 (mid_at (A := (wSim Z s (toN Z) (toM Z) hA lA oA tA eA (fun j => some (rw j)) (fun j => some (lr j)) fo ft fe dy ca)) (M := wRw Z (toN Z) rw p h f t) (B := ((wPl Z L ++ wLr Z (toM Z) lr (toK Z) (toV Z)) ++ wc)) (by simp only [List.append_assoc, List.append_nil, List.nil_append]) (wRw_at (by omega))) (vp_in_nI (n := 1) (by decide) (by decide)) ?_
    refine J_st (.int (nI (h hq)) :: []) rfl ?_
    refine J_istore [(6, .int (nI (h hq))), (5, .ref (rw hq)), (4, .int (nI hq)), (3, .int (nI (toN Z))), (0, .ref (x 0)), (1, .ref s), (2, .int v)] C iL_act_175 (by decide) rfl ?_
    refine J_aload C iL_act_177 rfl ?_
    refine J_iconst 1 C iL_act_179 rfl ?_
    refine J_iload_n C iL_act_180 rfl rfl ?_
    refine J_iconst 4 C iL_act_181 rfl ?_
    refine J_ishr C iL_act_182 ?_
    refine J_alt (ι := Unit) (P := fun _ => True) (130) (400) 201 (fun _ => [(6, .int (nI (h hq))), (5, .ref (rw hq)), (4, .int (nI hq)), (3, .int (nI (toN Z))), (0, .ref (x 0)), (1, .ref s), (2, .int v)]) (fun _ => .int (nI (acM v)) :: .int (v >>> (4 &&& 31)) :: .int 1 :: .ref (rw hq) :: []) (fun _ => ((((wSim Z s (toN Z) (toM Z) hA lA oA tA eA (fun j => some (rw j)) (fun j => some (lr j)) fo ft fe dy ca ++ wRw Z (toN Z) rw p h f t) ++ wPl Z L) ++ wLr Z (toM Z) lr (toK Z) (toV Z)) ++ wc)) (fun _ _ => ?_) (fun hk201 => ?_)
    · refine J_cSb (As := [.int (v >>> (4 &&& 31)), .int (nI (acM v))]) (st := .int 1 :: .ref (rw hq) :: []) (rc2 := 130) (rs2 := 400) (w0 := []) C iL_act_201 lm_L_35 yc_L_below ys_L_below (c_L_below (x := v >>> (4 &&& 31)) (N := (acM v)) (by omega) (by omega)) [] ((((wSim Z s (toN Z) (toM Z) hA lA oA tA eA (fun j => some (rw j)) (fun j => some (lr j)) fo ft fe dy ca ++ wRw Z (toN Z) rw p h f t) ++ wPl Z L) ++ wLr Z (toM Z) lr (toK Z) (toV Z)) ++ wc) (by simp only [List.append_assoc, List.append_nil, List.nil_append]) rfl ⟨Nat.le_of_ble_eq_true rfl, Nat.le_of_ble_eq_true rfl⟩ (Nat.le_of_ble_eq_true rfl) (Nat.zero_add _).symm (Nat.zero_add _).symm ?_
      rintro _ _ ⟨rfl, rfl⟩
      refine J_st (.int (nI (belN (v >>> (4 &&& 31)) (acM v))) :: .int 1 :: .ref (rw hq) :: []) rfl ?_
      refine J_ws ((((wSim Z s (toN Z) (toM Z) hA lA oA tA eA (fun j => some (rw j)) (fun j => some (lr j)) fo ft fe dy ca ++ wRw Z (toN Z) rw p h f t) ++ wPl Z L) ++ wLr Z (toM Z) lr (toK Z) (toV Z)) ++ wc) (by simp only [List.append_assoc, List.append_nil, List.nil_append]) ?_
      have hn3 : (belN (v >>> (4 &&& 31)) (acM v)) ≤ 30 := by have := belN_lt (x := v >>> (4 &&& 31)) (n := acM v) hac.1; omega
      generalize n3_e : (belN (v >>> (4 &&& 31)) (acM v)) = n3_ at hn3 ⊢
      clear n3_e
      refine J_st (.int (nI n3_) :: .int 1 :: .ref (rw hq) :: []) rfl ?_
      refine J_iast (n := 4) (f := rowF p h f t hq) ((((wSim Z s (toN Z) (toM Z) hA lA oA tA eA (fun j => some (rw j)) (fun j => some (lr j)) fo ft fe dy ca ++ wRw Z (toN Z) rw p (upN h hq n3_) f t) ++ wPl Z L) ++ wLr Z (toM Z) lr (toK Z) (toV Z)) ++ wc) (((wSim Z s (toN Z) (toM Z) hA lA oA tA eA (fun j => some (rw j)) (fun j => some (lr j)) fo ft fe dy ca)).length + hq) C iL_act_204 (mid_at (A := (wSim Z s (toN Z) (toM Z) hA lA oA tA eA (fun j => some (rw j)) (fun j => some (lr j)) fo ft fe dy ca)) (M := wRw Z (toN Z) rw p h f t) (B := ((wPl Z L ++ wLr Z (toM Z) lr (toK Z) (toV Z)) ++ wc)) (by simp only [List.append_assoc, List.append_nil, List.nil_append]) (wRw_at (by omega))) (vp_in_nI (n := 1) (by decide) (by decide)) ?_ ?_
      · rw [show Int32.toNatClampNeg 1 = 1 from rfl]; exact (mid_set (A := (wSim Z s (toN Z) (toM Z) hA lA oA tA eA (fun j => some (rw j)) (fun j => some (lr j)) fo ft fe dy ca)) (M := wRw Z (toN Z) rw p h f t) (B := ((wPl Z L ++ wLr Z (toM Z) lr (toK Z) (toV Z)) ++ wc)) (by simp only [List.append_assoc, List.append_nil, List.nil_append]) (by rw [wRw_len]; omega) (wRw_set (by omega) row_h (fun j hj hne => by simp [upN, hne]))).trans (by simp only [List.append_assoc, List.append_nil, List.nil_append])
      refine J_aload_n C iL_act_205 rfl rfl ?_
      refine J_iload C iL_act_206 rfl ?_
      refine J_aload C iL_act_208 rfl ?_
      refine J_iconst 1 C iL_act_210 rfl ?_
      refine J_iald (n := 4) (f := rowF p (upN h hq n3_) f t hq) (((wSim Z s (toN Z) (toM Z) hA lA oA tA eA (fun j => some (rw j)) (fun j => some (lr j)) fo ft fe dy ca)).length + hq) C iL_act_211 (mid_at (A := (wSim Z s (toN Z) (toM Z) hA lA oA tA eA (fun j => some (rw j)) (fun j => some (lr j)) fo ft fe dy ca)) (M := wRw Z (toN Z) rw p (upN h hq n3_) f t) (B := ((wPl Z L ++ wLr Z (toM Z) lr (toK Z) (toV Z)) ++ wc)) (by simp only [List.append_assoc, List.append_nil, List.nil_append]) (wRw_at (by omega))) (vp_in_nI (n := 1) (by decide) (by decide)) ?_
      refine J_st (.int (nI ((upN h hq n3_) hq)) :: .int (nI hq) :: .ref (x 0) :: []) rfl ?_
      rw [upN_s]
      obtain ⟨fs4, hf4⟩ := CI.head hC
      refine J_room (rc2 := 2 + 128) (rs2 := 12 + 388) (by omega) (by omega) ?_
      refine J_cVb (As := [.int (nI hq), .int (nI n3_)]) (st := []) (rc2 := 128) (rs2 := 388) (w0 := (wc)) (q0 := 0) C iL_act_212 lm_L_147 yc_X8_build yv_X8_build (k_build hl (a := hq) (y := n3_) hC eq0 ok0 hqn (by omega)) rfl rfl hf4 (((wSim Z s (toN Z) (toM Z) hA lA oA tA eA (fun j => some (rw j)) (fun j => some (lr j)) fo ft fe dy ca ++ wRw Z (toN Z) rw p (upN h hq n3_) f t) ++ wPl Z L) ++ wLr Z (toM Z) lr (toK Z) (toV Z)) [] (by simp only [List.append_assoc, List.append_nil, List.nil_append]) rfl ⟨Nat.le_of_ble_eq_true rfl, Nat.le_of_ble_eq_true rfl⟩ (Nat.le_of_ble_eq_true rfl) rfl rfl ?_
      rintro _ w4 ⟨rfl, hC4⟩
      refine J_st (.int (nI (h hq)) :: []) rfl ?_
      refine J_ws ((((wSim Z s (toN Z) (toM Z) hA lA oA tA eA (fun j => some (rw j)) (fun j => some (lr j)) fo ft fe dy ca ++ wRw Z (toN Z) rw p (upN h hq n3_) f t) ++ wPl Z L) ++ wLr Z (toM Z) lr (toK Z) (toV Z)) ++ w4) (by simp only [List.append_assoc, List.append_nil, List.nil_append]) ?_
      refine J_iload C iL_act_215 rfl ?_
      refine J_icmpne 224 C iL_act_217 rfl (fun h217 => absurd rfl h217) (fun h217 => ?_)
      refine J_iconst 1 C iL_act_220 rfl ?_
      refine J_goto 225 C iL_act_221 rfl ?_
      exact J_zret C E iL_act_225 rfl ⟨rfl, _, _, _, _, _, _, _, _, dy, ca, w4, rfl, hC4, eq0.upH, (ok0.upH hn3)⟩
    · refine J_iload_n C iL_act_183 rfl rfl ?_
      refine J_bipush 7 C iL_act_184 rfl ?_
      refine J_ishr C iL_act_186 ?_
      refine J_iconst 2 C iL_act_187 rfl ?_
      refine J_cSb (As := [.int (v >>> (7 &&& 31)), .int 2]) (st := .int (v >>> (4 &&& 31)) :: .int 1 :: .ref (rw hq) :: []) (rc2 := 130) (rs2 := 400) (w0 := []) C iL_act_188 lm_L_35 yc_L_below ys_L_below (c_L_below (x := v >>> (7 &&& 31)) (N := 2) (by omega) (by omega)) [] ((((wSim Z s (toN Z) (toM Z) hA lA oA tA eA (fun j => some (rw j)) (fun j => some (lr j)) fo ft fe dy ca ++ wRw Z (toN Z) rw p h f t) ++ wPl Z L) ++ wLr Z (toM Z) lr (toK Z) (toV Z)) ++ wc) (by simp only [List.append_assoc, List.append_nil, List.nil_append]) rfl ⟨Nat.le_of_ble_eq_true rfl, Nat.le_of_ble_eq_true rfl⟩ (Nat.le_of_ble_eq_true rfl) (Nat.zero_add _).symm (Nat.zero_add _).symm ?_
      rintro _ _ ⟨rfl, rfl⟩
      refine J_st (.int (nI (belN (v >>> (7 &&& 31)) 2)) :: .int (v >>> (4 &&& 31)) :: .int 1 :: .ref (rw hq) :: []) rfl ?_
      refine J_ws ((((wSim Z s (toN Z) (toM Z) hA lA oA tA eA (fun j => some (rw j)) (fun j => some (lr j)) fo ft fe dy ca ++ wRw Z (toN Z) rw p h f t) ++ wPl Z L) ++ wLr Z (toM Z) lr (toK Z) (toV Z)) ++ wc) (by simp only [List.append_assoc, List.append_nil, List.nil_append]) ?_
      by_cases hm3 : belN (v >>> (7 &&& 31)) 2 = 0
      · refine J_ifne 199 C iL_act_191 rfl (fun h191 => absurd (show nI (belN (v >>> (7 &&& 31)) 2) = 0 from congrArg nI hm3) h191) (fun h191 => ?_)
        refine J_bipush 31 C iL_act_194 rfl ?_
        refine J_goto 201 C iL_act_196 rfl ?_
        refine J_st (.int (nI (acM v)) :: .int (v >>> (4 &&& 31)) :: .int 1 :: .ref (rw hq) :: []) (congrArg (fun z => (.int z :: .int (v >>> (4 &&& 31)) :: .int 1 :: .ref (rw hq) :: [] : List Value)) (show (31 : Int32) = nI (acM v) from congrArg nI (show 31 = acM v by rw [acM, if_pos hm3]))) ?_
        refine J_lvm [(6, .int (nI (h hq))), (5, .ref (rw hq)), (4, .int (nI hq)), (3, .int (nI (toN Z))), (0, .ref (x 0)), (1, .ref s), (2, .int v)] rfl ?_
        exact hk201 () trivial
      · refine J_ifne 199 C iL_act_191 rfl (fun h191 => ?_) (fun h191 => absurd h191 (fun e => hm3 ((nI_eq (a := belN (v >>> (7 &&& 31)) 2) (b := 0) (by have := belN_lt (x := (v >>> (7 &&& 31))) (n := 2) (by decide); omega) (by decide)).mp e)))
        refine J_bipush 10 C iL_act_199 rfl ?_
        refine J_st (.int (nI (acM v)) :: .int (v >>> (4 &&& 31)) :: .int 1 :: .ref (rw hq) :: []) (congrArg (fun z => (.int z :: .int (v >>> (4 &&& 31)) :: .int 1 :: .ref (rw hq) :: [] : List Value)) (show (10 : Int32) = nI (acM v) from congrArg nI (show 10 = acM v by rw [acM, if_neg hm3]))) ?_
        refine J_lvm [(6, .int (nI (h hq))), (5, .ref (rw hq)), (4, .int (nI hq)), (3, .int (nI (toN Z))), (0, .ref (x 0)), (1, .ref s), (2, .int v)] rfl ?_
        exact hk201 () trivial
  · refine J_st (.int 4 :: []) rfl ?_
    refine J_tabIn 171 C iL_act_30 (by decide) (by decide) rfl rfl ?_
    refine J_aload C iL_act_171 rfl ?_
    refine J_iconst 1 C iL_act_173 rfl ?_
    refine J_iald (n := 4) (f := rowF p h f t hq) (((wSim Z s (toN Z) (toM Z) hA lA oA tA eA (fun j => some (rw j)) (fun j => some (lr j)) fo ft fe dy ca)).length + hq) C iL_act_174 (mid_at (A := (wSim Z s (toN Z) (toM Z) hA lA oA tA eA (fun j => some (rw j)) (fun j => some (lr j)) fo ft fe dy ca)) (M := wRw Z (toN Z) rw p h f t) (B := ((wPl Z L ++ wLr Z (toM Z) lr (toK Z) (toV Z)) ++ wc)) (by simp only [List.append_assoc, List.append_nil, List.nil_append]) (wRw_at (by omega))) (vp_in_nI (n := 1) (by decide) (by decide)) ?_
    refine J_st (.int (nI (h hq)) :: []) rfl ?_
    refine J_istore [(6, .int (nI (h hq))), (5, .ref (rw hq)), (4, .int (nI hq)), (3, .int (nI (toN Z))), (0, .ref (x 0)), (1, .ref s), (2, .int v)] C iL_act_175 (by decide) rfl ?_
    refine J_aload C iL_act_177 rfl ?_
    refine J_iconst 1 C iL_act_179 rfl ?_
    refine J_iload_n C iL_act_180 rfl rfl ?_
    refine J_iconst 4 C iL_act_181 rfl ?_
    refine J_ishr C iL_act_182 ?_
    refine J_alt (ι := Unit) (P := fun _ => True) (130) (400) 201 (fun _ => [(6, .int (nI (h hq))), (5, .ref (rw hq)), (4, .int (nI hq)), (3, .int (nI (toN Z))), (0, .ref (x 0)), (1, .ref s), (2, .int v)]) (fun _ => .int (nI (acM v)) :: .int (v >>> (4 &&& 31)) :: .int 1 :: .ref (rw hq) :: []) (fun _ => ((((wSim Z s (toN Z) (toM Z) hA lA oA tA eA (fun j => some (rw j)) (fun j => some (lr j)) fo ft fe dy ca ++ wRw Z (toN Z) rw p h f t) ++ wPl Z L) ++ wLr Z (toM Z) lr (toK Z) (toV Z)) ++ wc)) (fun _ _ => ?_) (fun hk201 => ?_)
    · refine J_cSb (As := [.int (v >>> (4 &&& 31)), .int (nI (acM v))]) (st := .int 1 :: .ref (rw hq) :: []) (rc2 := 130) (rs2 := 400) (w0 := []) C iL_act_201 lm_L_35 yc_L_below ys_L_below (c_L_below (x := v >>> (4 &&& 31)) (N := (acM v)) (by omega) (by omega)) [] ((((wSim Z s (toN Z) (toM Z) hA lA oA tA eA (fun j => some (rw j)) (fun j => some (lr j)) fo ft fe dy ca ++ wRw Z (toN Z) rw p h f t) ++ wPl Z L) ++ wLr Z (toM Z) lr (toK Z) (toV Z)) ++ wc) (by simp only [List.append_assoc, List.append_nil, List.nil_append]) rfl ⟨Nat.le_of_ble_eq_true rfl, Nat.le_of_ble_eq_true rfl⟩ (Nat.le_of_ble_eq_true rfl) (Nat.zero_add _).symm (Nat.zero_add _).symm ?_
      rintro _ _ ⟨rfl, rfl⟩
      refine J_st (.int (nI (belN (v >>> (4 &&& 31)) (acM v))) :: .int 1 :: .ref (rw hq) :: []) rfl ?_
      refine J_ws ((((wSim Z s (toN Z) (toM Z) hA lA oA tA eA (fun j => some (rw j)) (fun j => some (lr j)) fo ft fe dy ca ++ wRw Z (toN Z) rw p h f t) ++ wPl Z L) ++ wLr Z (toM Z) lr (toK Z) (toV Z)) ++ wc) (by simp only [List.append_assoc, List.append_nil, List.nil_append]) ?_
      have hn3 : (belN (v >>> (4 &&& 31)) (acM v)) ≤ 30 := by have := belN_lt (x := v >>> (4 &&& 31)) (n := acM v) hac.1; omega
      generalize n3_e : (belN (v >>> (4 &&& 31)) (acM v)) = n3_ at hn3 ⊢
      clear n3_e
      refine J_st (.int (nI n3_) :: .int 1 :: .ref (rw hq) :: []) rfl ?_
      refine J_iast (n := 4) (f := rowF p h f t hq) ((((wSim Z s (toN Z) (toM Z) hA lA oA tA eA (fun j => some (rw j)) (fun j => some (lr j)) fo ft fe dy ca ++ wRw Z (toN Z) rw p (upN h hq n3_) f t) ++ wPl Z L) ++ wLr Z (toM Z) lr (toK Z) (toV Z)) ++ wc) (((wSim Z s (toN Z) (toM Z) hA lA oA tA eA (fun j => some (rw j)) (fun j => some (lr j)) fo ft fe dy ca)).length + hq) C iL_act_204 (mid_at (A := (wSim Z s (toN Z) (toM Z) hA lA oA tA eA (fun j => some (rw j)) (fun j => some (lr j)) fo ft fe dy ca)) (M := wRw Z (toN Z) rw p h f t) (B := ((wPl Z L ++ wLr Z (toM Z) lr (toK Z) (toV Z)) ++ wc)) (by simp only [List.append_assoc, List.append_nil, List.nil_append]) (wRw_at (by omega))) (vp_in_nI (n := 1) (by decide) (by decide)) ?_ ?_
      · rw [show Int32.toNatClampNeg 1 = 1 from rfl]; exact (mid_set (A := (wSim Z s (toN Z) (toM Z) hA lA oA tA eA (fun j => some (rw j)) (fun j => some (lr j)) fo ft fe dy ca)) (M := wRw Z (toN Z) rw p h f t) (B := ((wPl Z L ++ wLr Z (toM Z) lr (toK Z) (toV Z)) ++ wc)) (by simp only [List.append_assoc, List.append_nil, List.nil_append]) (by rw [wRw_len]; omega) (wRw_set (by omega) row_h (fun j hj hne => by simp [upN, hne]))).trans (by simp only [List.append_assoc, List.append_nil, List.nil_append])
      refine J_aload_n C iL_act_205 rfl rfl ?_
      refine J_iload C iL_act_206 rfl ?_
      refine J_aload C iL_act_208 rfl ?_
      refine J_iconst 1 C iL_act_210 rfl ?_
      refine J_iald (n := 4) (f := rowF p (upN h hq n3_) f t hq) (((wSim Z s (toN Z) (toM Z) hA lA oA tA eA (fun j => some (rw j)) (fun j => some (lr j)) fo ft fe dy ca)).length + hq) C iL_act_211 (mid_at (A := (wSim Z s (toN Z) (toM Z) hA lA oA tA eA (fun j => some (rw j)) (fun j => some (lr j)) fo ft fe dy ca)) (M := wRw Z (toN Z) rw p (upN h hq n3_) f t) (B := ((wPl Z L ++ wLr Z (toM Z) lr (toK Z) (toV Z)) ++ wc)) (by simp only [List.append_assoc, List.append_nil, List.nil_append]) (wRw_at (by omega))) (vp_in_nI (n := 1) (by decide) (by decide)) ?_
      refine J_st (.int (nI ((upN h hq n3_) hq)) :: .int (nI hq) :: .ref (x 0) :: []) rfl ?_
      rw [upN_s]
      obtain ⟨fs5, hf5⟩ := CI.head hC
      refine J_room (rc2 := 2 + 128) (rs2 := 12 + 388) (by omega) (by omega) ?_
      refine J_cVb (As := [.int (nI hq), .int (nI n3_)]) (st := []) (rc2 := 128) (rs2 := 388) (w0 := (wc)) (q0 := 0) C iL_act_212 lm_L_147 yc_X8_build yv_X8_build (k_build hl (a := hq) (y := n3_) hC eq0 ok0 hqn (by omega)) rfl rfl hf5 (((wSim Z s (toN Z) (toM Z) hA lA oA tA eA (fun j => some (rw j)) (fun j => some (lr j)) fo ft fe dy ca ++ wRw Z (toN Z) rw p (upN h hq n3_) f t) ++ wPl Z L) ++ wLr Z (toM Z) lr (toK Z) (toV Z)) [] (by simp only [List.append_assoc, List.append_nil, List.nil_append]) rfl ⟨Nat.le_of_ble_eq_true rfl, Nat.le_of_ble_eq_true rfl⟩ (Nat.le_of_ble_eq_true rfl) rfl rfl ?_
      rintro _ w5 ⟨rfl, hC5⟩
      refine J_st (.int (nI (h hq)) :: []) rfl ?_
      refine J_ws ((((wSim Z s (toN Z) (toM Z) hA lA oA tA eA (fun j => some (rw j)) (fun j => some (lr j)) fo ft fe dy ca ++ wRw Z (toN Z) rw p (upN h hq n3_) f t) ++ wPl Z L) ++ wLr Z (toM Z) lr (toK Z) (toV Z)) ++ w5) (by simp only [List.append_assoc, List.append_nil, List.nil_append]) ?_
      refine J_iload C iL_act_215 rfl ?_
      refine J_icmpne 224 C iL_act_217 rfl (fun h217 => absurd rfl h217) (fun h217 => ?_)
      refine J_iconst 1 C iL_act_220 rfl ?_
      refine J_goto 225 C iL_act_221 rfl ?_
      exact J_zret C E iL_act_225 rfl ⟨rfl, _, _, _, _, _, _, _, _, dy, ca, w5, rfl, hC5, eq0.upH, (ok0.upH hn3)⟩
    · refine J_iload_n C iL_act_183 rfl rfl ?_
      refine J_bipush 7 C iL_act_184 rfl ?_
      refine J_ishr C iL_act_186 ?_
      refine J_iconst 2 C iL_act_187 rfl ?_
      refine J_cSb (As := [.int (v >>> (7 &&& 31)), .int 2]) (st := .int (v >>> (4 &&& 31)) :: .int 1 :: .ref (rw hq) :: []) (rc2 := 130) (rs2 := 400) (w0 := []) C iL_act_188 lm_L_35 yc_L_below ys_L_below (c_L_below (x := v >>> (7 &&& 31)) (N := 2) (by omega) (by omega)) [] ((((wSim Z s (toN Z) (toM Z) hA lA oA tA eA (fun j => some (rw j)) (fun j => some (lr j)) fo ft fe dy ca ++ wRw Z (toN Z) rw p h f t) ++ wPl Z L) ++ wLr Z (toM Z) lr (toK Z) (toV Z)) ++ wc) (by simp only [List.append_assoc, List.append_nil, List.nil_append]) rfl ⟨Nat.le_of_ble_eq_true rfl, Nat.le_of_ble_eq_true rfl⟩ (Nat.le_of_ble_eq_true rfl) (Nat.zero_add _).symm (Nat.zero_add _).symm ?_
      rintro _ _ ⟨rfl, rfl⟩
      refine J_st (.int (nI (belN (v >>> (7 &&& 31)) 2)) :: .int (v >>> (4 &&& 31)) :: .int 1 :: .ref (rw hq) :: []) rfl ?_
      refine J_ws ((((wSim Z s (toN Z) (toM Z) hA lA oA tA eA (fun j => some (rw j)) (fun j => some (lr j)) fo ft fe dy ca ++ wRw Z (toN Z) rw p h f t) ++ wPl Z L) ++ wLr Z (toM Z) lr (toK Z) (toV Z)) ++ wc) (by simp only [List.append_assoc, List.append_nil, List.nil_append]) ?_
      by_cases hm3 : belN (v >>> (7 &&& 31)) 2 = 0
      · refine J_ifne 199 C iL_act_191 rfl (fun h191 => absurd (show nI (belN (v >>> (7 &&& 31)) 2) = 0 from congrArg nI hm3) h191) (fun h191 => ?_)
        refine J_bipush 31 C iL_act_194 rfl ?_
        refine J_goto 201 C iL_act_196 rfl ?_
        refine J_st (.int (nI (acM v)) :: .int (v >>> (4 &&& 31)) :: .int 1 :: .ref (rw hq) :: []) (congrArg (fun z => (.int z :: .int (v >>> (4 &&& 31)) :: .int 1 :: .ref (rw hq) :: [] : List Value)) (show (31 : Int32) = nI (acM v) from congrArg nI (show 31 = acM v by rw [acM, if_pos hm3]))) ?_
        refine J_lvm [(6, .int (nI (h hq))), (5, .ref (rw hq)), (4, .int (nI hq)), (3, .int (nI (toN Z))), (0, .ref (x 0)), (1, .ref s), (2, .int v)] rfl ?_
        exact hk201 () trivial
      · refine J_ifne 199 C iL_act_191 rfl (fun h191 => ?_) (fun h191 => absurd h191 (fun e => hm3 ((nI_eq (a := belN (v >>> (7 &&& 31)) 2) (b := 0) (by have := belN_lt (x := (v >>> (7 &&& 31))) (n := 2) (by decide); omega) (by decide)).mp e)))
        refine J_bipush 10 C iL_act_199 rfl ?_
        refine J_st (.int (nI (acM v)) :: .int (v >>> (4 &&& 31)) :: .int 1 :: .ref (rw hq) :: []) (congrArg (fun z => (.int z :: .int (v >>> (4 &&& 31)) :: .int 1 :: .ref (rw hq) :: [] : List Value)) (show (10 : Int32) = nI (acM v) from congrArg nI (show 10 = acM v by rw [acM, if_neg hm3]))) ?_
        refine J_lvm [(6, .int (nI (h hq))), (5, .ref (rw hq)), (4, .int (nI hq)), (3, .int (nI (toN Z))), (0, .ref (x 0)), (1, .ref s), (2, .int v)] rfl ?_
        exact hk201 () trivial
  · refine J_st (.int 5 :: []) rfl ?_
    refine J_tabIn 226 C iL_act_30 (by decide) (by decide) rfl rfl ?_
    refine J_iload_n C iL_act_226 rfl rfl ?_
    refine J_iconst 4 C iL_act_227 rfl ?_
    refine J_ishr C iL_act_228 ?_
    refine J_bipush 100 C iL_act_229 rfl ?_
    refine J_cSb (As := [.int (v >>> (4 &&& 31)), .int 100]) (st := []) (rc2 := 130) (rs2 := 400) (w0 := []) C iL_act_231 lm_L_35 yc_L_below ys_L_below (c_L_below (x := v >>> (4 &&& 31)) (N := 100) (by omega) (by omega)) [] ((((wSim Z s (toN Z) (toM Z) hA lA oA tA eA (fun j => some (rw j)) (fun j => some (lr j)) fo ft fe dy ca ++ wRw Z (toN Z) rw p h f t) ++ wPl Z L) ++ wLr Z (toM Z) lr (toK Z) (toV Z)) ++ wc) (by simp only [List.append_assoc, List.append_nil, List.nil_append]) rfl ⟨Nat.le_of_ble_eq_true rfl, Nat.le_of_ble_eq_true rfl⟩ (Nat.le_of_ble_eq_true rfl) (Nat.zero_add _).symm (Nat.zero_add _).symm ?_
    rintro _ _ ⟨rfl, rfl⟩
    refine J_st (.int (nI (belN (v >>> (4 &&& 31)) 100)) :: []) rfl ?_
    refine J_ws ((((wSim Z s (toN Z) (toM Z) hA lA oA tA eA (fun j => some (rw j)) (fun j => some (lr j)) fo ft fe dy ca ++ wRw Z (toN Z) rw p h f t) ++ wPl Z L) ++ wLr Z (toM Z) lr (toK Z) (toV Z)) ++ wc) (by simp only [List.append_assoc, List.append_nil, List.nil_append]) ?_
    have hn4 : (belN (v >>> (4 &&& 31)) 100) < 100 := belN_lt (by decide)
    generalize n4_e : (belN (v >>> (4 &&& 31)) 100) = n4_ at hn4 ⊢
    clear n4_e
    refine J_st (.int (nI n4_) :: []) rfl ?_
    refine J_istore [(6, .int (nI n4_)), (5, .ref (rw hq)), (4, .int (nI hq)), (3, .int (nI (toN Z))), (0, .ref (x 0)), (1, .ref s), (2, .int v)] C iL_act_234 (by decide) rfl ?_
    refine J_iconst 0 C iL_act_236 rfl ?_
    refine J_istore [(7, .int 0), (6, .int (nI n4_)), (5, .ref (rw hq)), (4, .int (nI hq)), (3, .int (nI (toN Z))), (0, .ref (x 0)), (1, .ref s), (2, .int v)] C iL_act_237 (by decide) rfl ?_
    refine J_lvm [(7, .int (nI 0)), (6, .int (nI n4_)), (5, .ref (rw hq)), (4, .int (nI hq)), (3, .int (nI (toN Z))), (2, .int v), (1, .ref s), (0, .ref (x 0))] rfl ?_
    refine J_forP (fun k => [(7, .int (nI k)), (6, .int (nI n4_)), (5, .ref (rw hq)), (4, .int (nI hq)), (3, .int (nI (toN Z))), (2, .int v), (1, .ref s), (0, .ref (x 0))]) (fun k => ((((wSim Z s (toN Z) (toM Z) hA lA oA tA eA (fun j => some (rw j)) (fun j => some (lr j)) fo ft fe dy ca ++ wRw Z (toN Z) rw p h f t) ++ wPl Z L) ++ wLr Z (toM Z) lr (toK Z) (toV Z)) ++ wc)) (fun k => ∀ j, j < k → ¬ j = hq → ¬ p j = n4_) (toN Z) 0 (by omega) (fun _ h => absurd h (Nat.not_lt_zero _)) (fun hI => ?_) (fun k hk0 hk hI ih => ?_)
    · refine J_iload C iL_act_239 rfl ?_
      refine J_iload_n C iL_act_241 rfl rfl ?_
      refine J_icmpge 274 C iL_act_242 rfl (fun h242 => ?_) (fun h242 => absurd (nI_le (a := toN Z) (b := toN Z) (by omega) (by omega)) h242)
      refine J_aload C iL_act_274 rfl ?_
      refine J_iconst 0 C iL_act_276 rfl ?_
      refine J_iald (n := 4) (f := rowF p h f t hq) (((wSim Z s (toN Z) (toM Z) hA lA oA tA eA (fun j => some (rw j)) (fun j => some (lr j)) fo ft fe dy ca)).length + hq) C iL_act_277 (mid_at (A := (wSim Z s (toN Z) (toM Z) hA lA oA tA eA (fun j => some (rw j)) (fun j => some (lr j)) fo ft fe dy ca)) (M := wRw Z (toN Z) rw p h f t) (B := ((wPl Z L ++ wLr Z (toM Z) lr (toK Z) (toV Z)) ++ wc)) (by simp only [List.append_assoc, List.append_nil, List.nil_append]) (wRw_at (by omega))) (vp_in_nI (n := 0) (by decide) (by decide)) ?_
      refine J_st (.int (nI (p hq)) :: []) rfl ?_
      refine J_istore [(7, .int (nI (p hq))), (6, .int (nI n4_)), (5, .ref (rw hq)), (4, .int (nI hq)), (3, .int (nI (toN Z))), (2, .int v), (1, .ref s), (0, .ref (x 0))] C iL_act_278 (by decide) rfl ?_
      refine J_aload C iL_act_280 rfl ?_
      refine J_iconst 0 C iL_act_282 rfl ?_
      refine J_iload C iL_act_283 rfl ?_
      refine J_iast (n := 4) (f := rowF p h f t hq) ((((wSim Z s (toN Z) (toM Z) hA lA oA tA eA (fun j => some (rw j)) (fun j => some (lr j)) fo ft fe dy ca ++ wRw Z (toN Z) rw (upN p hq n4_) h f t) ++ wPl Z L) ++ wLr Z (toM Z) lr (toK Z) (toV Z)) ++ wc) (((wSim Z s (toN Z) (toM Z) hA lA oA tA eA (fun j => some (rw j)) (fun j => some (lr j)) fo ft fe dy ca)).length + hq) C iL_act_285 (mid_at (A := (wSim Z s (toN Z) (toM Z) hA lA oA tA eA (fun j => some (rw j)) (fun j => some (lr j)) fo ft fe dy ca)) (M := wRw Z (toN Z) rw p h f t) (B := ((wPl Z L ++ wLr Z (toM Z) lr (toK Z) (toV Z)) ++ wc)) (by simp only [List.append_assoc, List.append_nil, List.nil_append]) (wRw_at (by omega))) (vp_in_nI (n := 0) (by decide) (by decide)) ?_ ?_
      · rw [show Int32.toNatClampNeg 0 = 0 from rfl]; exact (mid_set (A := (wSim Z s (toN Z) (toM Z) hA lA oA tA eA (fun j => some (rw j)) (fun j => some (lr j)) fo ft fe dy ca)) (M := wRw Z (toN Z) rw p h f t) (B := ((wPl Z L ++ wLr Z (toM Z) lr (toK Z) (toV Z)) ++ wc)) (by simp only [List.append_assoc, List.append_nil, List.nil_append]) (by rw [wRw_len]; omega) (wRw_set (by omega) row_p (fun j hj hne => by simp [upN, hne]))).trans (by simp only [List.append_assoc, List.append_nil, List.nil_append])
      refine J_aload_n C iL_act_286 rfl rfl ?_
      refine J_iload C iL_act_287 rfl ?_
      refine J_iload C iL_act_289 rfl ?_
      obtain ⟨fs6, hf6⟩ := CI.head hC
      refine J_room (rc2 := 3 + 127) (rs2 := 18 + 382) (by omega) (by omega) ?_
      refine J_cVb (As := [.int (nI hq), .int (nI n4_)]) (st := []) (rc2 := 127) (rs2 := 382) (w0 := (wc)) (q0 := 0) C iL_act_291 lm_L_150 yc_X8_move yv_X8_move (k_move hl (a := hq) (y := n4_) hC eq0 ok0 hqn (by omega) hI) rfl rfl hf6 (((wSim Z s (toN Z) (toM Z) hA lA oA tA eA (fun j => some (rw j)) (fun j => some (lr j)) fo ft fe dy ca ++ wRw Z (toN Z) rw (upN p hq n4_) h f t) ++ wPl Z L) ++ wLr Z (toM Z) lr (toK Z) (toV Z)) [] (by simp only [List.append_assoc, List.append_nil, List.nil_append]) rfl ⟨Nat.le_of_ble_eq_true rfl, Nat.le_of_ble_eq_true rfl⟩ (Nat.le_of_ble_eq_true rfl) rfl rfl ?_
      rintro _ w6 ⟨rfl, hC6⟩
      refine J_st (.int (nI (p hq)) :: []) rfl ?_
      refine J_ws ((((wSim Z s (toN Z) (toM Z) hA lA oA tA eA (fun j => some (rw j)) (fun j => some (lr j)) fo ft fe dy ca ++ wRw Z (toN Z) rw (upN p hq n4_) h f t) ++ wPl Z L) ++ wLr Z (toM Z) lr (toK Z) (toV Z)) ++ w6) (by simp only [List.append_assoc, List.append_nil, List.nil_append]) ?_
      refine J_iload C iL_act_294 rfl ?_
      refine J_icmpne 303 C iL_act_296 rfl (fun h296 => absurd rfl h296) (fun h296 => ?_)
      refine J_iconst 1 C iL_act_299 rfl ?_
      refine J_goto 304 C iL_act_300 rfl ?_
      exact J_zret C E iL_act_304 rfl ⟨rfl, _, _, _, _, _, _, _, _, dy, ca, w6, rfl, hC6, eq0.upP, (ok0.upP hn4)⟩
    · have hk9 := ok0.2 k hk
      refine J_iload C iL_act_239 rfl ?_
      refine J_iload_n C iL_act_241 rfl rfl ?_
      refine J_icmpge 274 C iL_act_242 rfl (fun h242 => absurd h242 (nI_ge (a := k) (b := toN Z) (by omega) (by omega))) (fun h242 => ?_)
      refine J_iload C iL_act_245 rfl ?_
      refine J_iload C iL_act_247 rfl ?_
      by_cases he9 : k = hq
      · refine J_icmpeq 268 C iL_act_249 rfl (fun h249 => ?_) (fun h249 => absurd (show nI k = nI hq from congrArg nI he9) h249)
        refine J_iinc ((nI k) + 1) [(7, .int ((nI k) + 1)), (6, .int (nI n4_)), (5, .ref (rw hq)), (4, .int (nI hq)), (3, .int (nI (toN Z))), (2, .int v), (1, .ref s), (0, .ref (x 0))] C iL_act_268 rfl rfl (by decide) rfl ?_
        rw [show (nI k) + 1 = nI (k + 1) from nI_add _ _]
        refine J_goto 239 C iL_act_271 rfl ?_
        refine J_lvm [(7, .int (nI (k + 1))), (6, .int (nI n4_)), (5, .ref (rw hq)), (4, .int (nI hq)), (3, .int (nI (toN Z))), (2, .int v), (1, .ref s), (0, .ref (x 0))] rfl ?_
        exact ih (fun j hj hne => Or.elim (Decidable.em (j = k)) (fun e => by subst e; first | exact absurd he9 hne | exact hp9) (fun e => hI j (by omega) hne))
      · refine J_icmpeq 268 C iL_act_249 rfl (fun h249 => absurd h249 (fun e => he9 ((nI_eq (by omega) (by omega)).mp e))) (fun h249 => ?_)
        refine J_aload_n C iL_act_252 rfl rfl ?_
        refine J_get (.ref hA) 0 C iL_act_253 gf_L_73 rfl rfl ?_
        refine J_iload C iL_act_256 rfl ?_
        refine J_aaldA 1 C iL_act_258 rfl (vp_in_nI (n := k) (by omega) (by omega)) ?_
        rw [nI_clamp (n := k) (by omega)]
        refine J_st (.ref (rw k) :: []) rfl ?_
        refine J_iconst 0 C iL_act_259 rfl ?_
        refine J_iald (n := 4) (f := rowF p h f t k) (((wSim Z s (toN Z) (toM Z) hA lA oA tA eA (fun j => some (rw j)) (fun j => some (lr j)) fo ft fe dy ca)).length + k) C iL_act_260 (mid_at (A := (wSim Z s (toN Z) (toM Z) hA lA oA tA eA (fun j => some (rw j)) (fun j => some (lr j)) fo ft fe dy ca)) (M := wRw Z (toN Z) rw p h f t) (B := ((wPl Z L ++ wLr Z (toM Z) lr (toK Z) (toV Z)) ++ wc)) (by simp only [List.append_assoc, List.append_nil, List.nil_append]) (wRw_at (by omega))) (vp_in_nI (n := 0) (by decide) (by decide)) ?_
        refine J_st (.int (nI (p k)) :: []) rfl ?_
        refine J_iload C iL_act_261 rfl ?_
        by_cases hp9 : p k = n4_
        · refine J_icmpne 268 C iL_act_263 rfl (fun h263 => absurd (show nI (p k) = nI n4_ from congrArg nI hp9) h263) (fun h263 => ?_)
          refine J_iconst 1 C iL_act_266 rfl ?_
          exact J_zret C E iL_act_267 rfl ⟨rfl, pP, pH, pF, pT, p, h, f, t, dy, ca, wc, rfl, hC, eq0, ok0⟩
        · refine J_icmpne 268 C iL_act_263 rfl (fun h263 => ?_) (fun h263 => absurd h263 (fun e => hp9 ((nI_eq (by omega) (by omega)).mp e)))
          refine J_iinc ((nI k) + 1) [(7, .int ((nI k) + 1)), (6, .int (nI n4_)), (5, .ref (rw hq)), (4, .int (nI hq)), (3, .int (nI (toN Z))), (2, .int v), (1, .ref s), (0, .ref (x 0))] C iL_act_268 rfl rfl (by decide) rfl ?_
          rw [show (nI k) + 1 = nI (k + 1) from nI_add _ _]
          refine J_goto 239 C iL_act_271 rfl ?_
          refine J_lvm [(7, .int (nI (k + 1))), (6, .int (nI n4_)), (5, .ref (rw hq)), (4, .int (nI hq)), (3, .int (nI (toN Z))), (2, .int v), (1, .ref s), (0, .ref (x 0))] rfl ?_
          exact ih (fun j hj hne => Or.elim (Decidable.em (j = k)) (fun e => by subst e; first | exact absurd he9 hne | exact hp9) (fun e => hI j (by omega) hne))
  · refine J_tabOut 305 C iL_act_30 (by rw [nI_toInt (by omega)]; omega) rfl ?_
    refine J_iconst 1 C iL_act_305 rfl ?_
    refine J_iload_n C iL_act_306 rfl rfl ?_
    refine J_iconst 5 C iL_act_307 rfl ?_
    refine J_ishr C iL_act_308 ?_
    refine J_alt (ι := Unit) (P := fun _ => True) (130) (400) 326 (fun _ => [(5, .ref (rw hq)), (4, .int (nI hq)), (3, .int (nI (toN Z))), (0, .ref (x 0)), (1, .ref s), (2, .int v)]) (fun _ => .int (nI (acD v)) :: .int (v >>> (5 &&& 31)) :: .int 1 :: []) (fun _ => ((((wSim Z s (toN Z) (toM Z) hA lA oA tA eA (fun j => some (rw j)) (fun j => some (lr j)) fo ft fe dy ca ++ wRw Z (toN Z) rw p h f t) ++ wPl Z L) ++ wLr Z (toM Z) lr (toK Z) (toV Z)) ++ wc)) (fun _ _ => ?_) (fun hk326 => ?_)
    · refine J_cSb (As := [.int (v >>> (5 &&& 31)), .int (nI (acD v))]) (st := .int 1 :: []) (rc2 := 130) (rs2 := 400) (w0 := []) C iL_act_326 lm_L_35 yc_L_below ys_L_below (c_L_below (x := v >>> (5 &&& 31)) (N := (acD v)) (by omega) (by omega)) [] ((((wSim Z s (toN Z) (toM Z) hA lA oA tA eA (fun j => some (rw j)) (fun j => some (lr j)) fo ft fe dy ca ++ wRw Z (toN Z) rw p h f t) ++ wPl Z L) ++ wLr Z (toM Z) lr (toK Z) (toV Z)) ++ wc) (by simp only [List.append_assoc, List.append_nil, List.nil_append]) rfl ⟨Nat.le_of_ble_eq_true rfl, Nat.le_of_ble_eq_true rfl⟩ (Nat.le_of_ble_eq_true rfl) (Nat.zero_add _).symm (Nat.zero_add _).symm ?_
      rintro _ _ ⟨rfl, rfl⟩
      refine J_st (.int (nI (belN (v >>> (5 &&& 31)) (acD v))) :: .int 1 :: []) rfl ?_
      refine J_ws ((((wSim Z s (toN Z) (toM Z) hA lA oA tA eA (fun j => some (rw j)) (fun j => some (lr j)) fo ft fe dy ca ++ wRw Z (toN Z) rw p h f t) ++ wPl Z L) ++ wLr Z (toM Z) lr (toK Z) (toV Z)) ++ wc) (by simp only [List.append_assoc, List.append_nil, List.nil_append]) ?_
      refine J_iadd C iL_act_329 ?_
      rw [show (1 : Int32) + (nI (belN (v >>> (5 &&& 31)) (acD v))) = nI (1 + (belN (v >>> (5 &&& 31)) (acD v))) from nI_add _ _]
      have hnd : 1 ≤ (1 + (belN (v >>> (5 &&& 31)) (acD v))) ∧ (1 + (belN (v >>> (5 &&& 31)) (acD v))) ≤ 30 := by have := belN_lt (x := v >>> (5 &&& 31)) (n := acD v) had.1; omega
      generalize nde : (1 + (belN (v >>> (5 &&& 31)) (acD v))) = nd at hnd ⊢
      clear nde
      refine J_st (.int (nI nd) :: []) rfl ?_
      refine J_istore [(6, .int (nI nd)), (5, .ref (rw hq)), (4, .int (nI hq)), (3, .int (nI (toN Z))), (0, .ref (x 0)), (1, .ref s), (2, .int v)] C iL_act_330 (by decide) rfl ?_
      refine J_aload_n C iL_act_332 rfl rfl ?_
      refine J_get (.int ca) 0 C iL_act_333 gf_L_153 rfl rfl ?_
      refine J_istore [(7, .int ca), (6, .int (nI nd)), (5, .ref (rw hq)), (4, .int (nI hq)), (3, .int (nI (toN Z))), (0, .ref (x 0)), (1, .ref s), (2, .int v)] C iL_act_336 (by decide) rfl ?_
      refine J_iconst 0 C iL_act_338 rfl ?_
      refine J_istore [(8, .int 0), (7, .int ca), (6, .int (nI nd)), (5, .ref (rw hq)), (4, .int (nI hq)), (3, .int (nI (toN Z))), (0, .ref (x 0)), (1, .ref s), (2, .int v)] C iL_act_339 (by decide) rfl ?_
      refine J_room (rc2 := 4 + 4 * (30 - 0)) (rs2 := 30 + 12 * (30 - 0)) (by omega) (by omega) ?_
      refine J_lvm [(8, .int (nI 0)), (7, .int ca), (6, .int (nI nd)), (1, .ref s), (0, .ref (x 0))] (by rfl) ?_
      refine J_forR (σ := (Nat → Nat) × (Nat → Nat) × (Nat → Nat) × Int32 × Int32) (fun k => 4 + 4 * (30 - k)) (fun k => 30 + 12 * (30 - k)) (fun k q => [(8, .int (nI k)), (7, .int ca), (6, .int (nI nd)), (1, .ref s), (0, .ref (x 0))]) (fun k q => ((((wSim Z s (toN Z) (toM Z) hA lA oA tA eA (fun j => some (rw j)) (fun j => some (lr j)) fo ft fe q.2.2.2.2 q.2.2.2.1 ++ wRw Z (toN Z) rw p q.1 q.2.1 q.2.2.1) ++ wPl Z L) ++ wLr Z (toM Z) lr (toK Z) (toV Z)) ++ wc)) (fun k q => ndN Z p ((h, f, t, ca), dy) k = ((q.1, q.2.1, q.2.2.1, q.2.2.2.1), q.2.2.2.2) ∧ SnOk (toN Z) p q.1 q.2.1 q.2.2.1) nd 0 (h, f, t, ca, dy) (by omega) ⟨rfl, ok0⟩ ?_ ?_
      · rintro ⟨hh1, ff1, tt1, cc1, dd1⟩ hI
        dsimp only at hI ⊢
        obtain ⟨hI1, hI2⟩ := hI
        obtain ⟨z1, z2, z3⟩ := days_link hd (dy := dy) (ca := ca) eq0 ok0 nd
        rw [hI1] at z1 z2 z3
        dsimp only at z1 z2 z3
        refine J_room (rc2 := 4) (rs2 := 30) (by omega) (by omega) ?_
        refine J_iload C iL_act_341 rfl ?_
        refine J_iload C iL_act_343 rfl ?_
        refine J_icmpge 358 C iL_act_345 rfl (fun h345 => ?_) (fun h345 => absurd (nI_le (a := nd) (b := nd) (by omega) (by omega)) h345)
        refine J_aload_n C iL_act_358 rfl rfl ?_
        refine J_iload C iL_act_359 rfl ?_
        obtain ⟨fs7, hf7⟩ := CI.head hC
        refine J_room (rc2 := 1 + 3) (rs2 := 6 + 24) (by omega) (by omega) ?_
        refine J_cVb (As := [.int (nI nd)]) (st := []) (rc2 := 3) (rs2 := 24) (w0 := (wc)) (q0 := 0) C iL_act_361 lm_L_159 yc_X8_passDays yv_X8_passDays (k_passDays hl (n := nd) hC eq0 ok0 (by omega) (by omega)) rfl rfl hf7 (((wSim Z s (toN Z) (toM Z) hA lA oA tA eA (fun j => some (rw j)) (fun j => some (lr j)) fo ft fe dd1 cc1 ++ wRw Z (toN Z) rw p hh1 ff1 tt1) ++ wPl Z L) ++ wLr Z (toM Z) lr (toK Z) (toV Z)) [] (by simp only [List.append_assoc, List.append_nil, List.nil_append]) rfl ⟨Nat.le_of_ble_eq_true rfl, Nat.le_of_ble_eq_true rfl⟩ (Nat.le_of_ble_eq_true rfl) rfl rfl ?_
        rintro _ w7 ⟨rfl, hC7⟩
        refine J_st (.int ((dyN (toN Z) pP op f1 f2 l0 hh c0 c1 c2 c3 u ((pH, pF, pT), ca, dy) nd).2.1 - ca) :: []) rfl ?_
        refine J_ws ((((wSim Z s (toN Z) (toM Z) hA lA oA tA eA (fun j => some (rw j)) (fun j => some (lr j)) fo ft fe dd1 cc1 ++ wRw Z (toN Z) rw p hh1 ff1 tt1) ++ wPl Z L) ++ wLr Z (toM Z) lr (toK Z) (toV Z)) ++ w7) (by simp only [List.append_assoc, List.append_nil, List.nil_append]) ?_
        refine J_aload_n C iL_act_364 rfl rfl ?_
        refine J_get (.int cc1) 0 C iL_act_365 gf_L_153 rfl rfl ?_
        refine J_iload C iL_act_368 rfl ?_
        refine J_isub C iL_act_370 ?_
        refine J_icmpne 378 C iL_act_371 rfl (fun h371 => absurd (show (dyN (toN Z) pP op f1 f2 l0 hh c0 c1 c2 c3 u ((pH, pF, pT), ca, dy) nd).2.1 - ca = cc1 - ca by rw [z2]) h371) (fun h371 => ?_)
        refine J_iconst 1 C iL_act_374 rfl ?_
        refine J_goto 379 C iL_act_375 rfl ?_
        exact J_zret C E iL_act_379 rfl ⟨rfl, pP, (dyN (toN Z) pP op f1 f2 l0 hh c0 c1 c2 c3 u ((pH, pF, pT), ca, dy) nd).1.1, (dyN (toN Z) pP op f1 f2 l0 hh c0 c1 c2 c3 u ((pH, pF, pT), ca, dy) nd).1.2.1, (dyN (toN Z) pP op f1 f2 l0 hh c0 c1 c2 c3 u ((pH, pF, pT), ca, dy) nd).1.2.2, p, hh1, ff1, tt1, dd1, cc1, w7, rfl, (by rw [← z2, ← z3]; exact hC7), z1, hI2⟩
      · rintro k ⟨hh1, ff1, tt1, cc1, dd1⟩ hk0 hk hI ih
        dsimp only at hI ⊢
        obtain ⟨hI1, hI2⟩ := hI
        refine J_room (rc2 := 4 + 1 * (4 + 4 * (30 - (k + 1)))) (rs2 := 12 + 1 * (30 + 12 * (30 - (k + 1)))) (by omega) (by omega) ?_
        refine J_iload C iL_act_341 rfl ?_
        refine J_iload C iL_act_343 rfl ?_
        refine J_icmpge 358 C iL_act_345 rfl (fun h345 => absurd h345 (nI_ge (a := k) (b := nd) (by omega) (by omega))) (fun h345 => ?_)
        refine J_aload_n C iL_act_348 rfl rfl ?_
        refine J_room (rc2 := 4 + (0 + 1 * (4 + 4 * (30 - (k + 1))))) (rs2 := 12 + (0 + 1 * (30 + 12 * (30 - (k + 1))))) (by omega) (by omega) ?_
        refine J_cVb (As := []) (st := []) (rc2 := 0 + 1 * (4 + 4 * (30 - (k + 1)))) (rs2 := 0 + 1 * (30 + 12 * (30 - (k + 1)))) (w0 := (((wSim Z s (toN Z) (toM Z) hA lA oA tA eA (fun j => some (rw j)) (fun j => some (lr j)) fo ft fe dd1 cc1 ++ wRw Z (toN Z) rw p hh1 ff1 tt1) ++ wPl Z L) ++ wLr Z (toM Z) lr (toK Z) (toV Z))) (q0 := 0) C iL_act_349 lm_L_156 yc_X9_pass yv_X9_pass (c_X9_pass hI2 tr) rfl rfl rfl [] (wc) (by simp only [List.append_assoc, List.append_nil, List.nil_append]) rfl ⟨Nat.le_of_ble_eq_true rfl, Nat.le_of_ble_eq_true rfl⟩ (Nat.le_of_ble_eq_true rfl) rfl rfl ?_
        rintro _ _ ⟨rfl, h8_, f8_, t8_, c8_, e8_, o8_, rfl⟩
        refine J_st ([]) rfl ?_
        refine J_ws ((((wSim Z s (toN Z) (toM Z) hA lA oA tA eA (fun j => some (rw j)) (fun j => some (lr j)) fo ft fe (dd1 + 1) c8_ ++ wRw Z (toN Z) rw p h8_ f8_ t8_) ++ wPl Z L) ++ wLr Z (toM Z) lr (toK Z) (toV Z)) ++ wc) (by simp only [List.append_assoc, List.append_nil, List.nil_append]) ?_
        refine J_iinc ((nI k) + 1) [(8, .int ((nI k) + 1)), (7, .int ca), (6, .int (nI nd)), (1, .ref s), (0, .ref (x 0))] C iL_act_352 rfl rfl (by decide) rfl ?_
        rw [show (nI k) + 1 = nI (k + 1) from nI_add _ _]
        refine J_goto 341 C iL_act_355 rfl ?_
        refine J_lvm [(8, .int (nI (k + 1))), (7, .int ca), (6, .int (nI nd)), (1, .ref s), (0, .ref (x 0))] rfl ?_
        refine J_room (rc2 := 4 + 4 * (30 - (k + 1))) (rs2 := 30 + 12 * (30 - (k + 1))) (by omega) (by omega) ?_
        exact ih (h8_, f8_, t8_, c8_, (dd1 + 1)) ⟨by rw [ndN, hI1]; exact congrArg (fun z => (z, dd1 + 1)) e8_, o8_⟩
    · refine J_iload_n C iL_act_309 rfl rfl ?_
      refine J_bipush 8 C iL_act_310 rfl ?_
      refine J_ishr C iL_act_312 ?_
      refine J_iconst 4 C iL_act_313 rfl ?_
      refine J_cSb (As := [.int (v >>> (8 &&& 31)), .int 4]) (st := .int (v >>> (5 &&& 31)) :: .int 1 :: []) (rc2 := 130) (rs2 := 400) (w0 := []) C iL_act_314 lm_L_35 yc_L_below ys_L_below (c_L_below (x := v >>> (8 &&& 31)) (N := 4) (by omega) (by omega)) [] ((((wSim Z s (toN Z) (toM Z) hA lA oA tA eA (fun j => some (rw j)) (fun j => some (lr j)) fo ft fe dy ca ++ wRw Z (toN Z) rw p h f t) ++ wPl Z L) ++ wLr Z (toM Z) lr (toK Z) (toV Z)) ++ wc) (by simp only [List.append_assoc, List.append_nil, List.nil_append]) rfl ⟨Nat.le_of_ble_eq_true rfl, Nat.le_of_ble_eq_true rfl⟩ (Nat.le_of_ble_eq_true rfl) (Nat.zero_add _).symm (Nat.zero_add _).symm ?_
      rintro _ _ ⟨rfl, rfl⟩
      refine J_st (.int (nI (belN (v >>> (8 &&& 31)) 4)) :: .int (v >>> (5 &&& 31)) :: .int 1 :: []) rfl ?_
      refine J_ws ((((wSim Z s (toN Z) (toM Z) hA lA oA tA eA (fun j => some (rw j)) (fun j => some (lr j)) fo ft fe dy ca ++ wRw Z (toN Z) rw p h f t) ++ wPl Z L) ++ wLr Z (toM Z) lr (toK Z) (toV Z)) ++ wc) (by simp only [List.append_assoc, List.append_nil, List.nil_append]) ?_
      by_cases hm4 : belN (v >>> (8 &&& 31)) 4 = 0
      · refine J_ifne 325 C iL_act_317 rfl (fun h317 => absurd (show nI (belN (v >>> (8 &&& 31)) 4) = 0 from congrArg nI hm4) h317) (fun h317 => ?_)
        refine J_bipush 30 C iL_act_320 rfl ?_
        refine J_goto 326 C iL_act_322 rfl ?_
        refine J_st (.int (nI (acD v)) :: .int (v >>> (5 &&& 31)) :: .int 1 :: []) (congrArg (fun z => (.int z :: .int (v >>> (5 &&& 31)) :: .int 1 :: [] : List Value)) (show (30 : Int32) = nI (acD v) from congrArg nI (show 30 = acD v by rw [acD, if_pos hm4]))) ?_
        refine J_lvm [(5, .ref (rw hq)), (4, .int (nI hq)), (3, .int (nI (toN Z))), (0, .ref (x 0)), (1, .ref s), (2, .int v)] rfl ?_
        exact hk326 () trivial
      · refine J_ifne 325 C iL_act_317 rfl (fun h317 => ?_) (fun h317 => absurd h317 (fun e => hm4 ((nI_eq (a := belN (v >>> (8 &&& 31)) 4) (b := 0) (by have := belN_lt (x := (v >>> (8 &&& 31))) (n := 4) (by decide); omega) (by decide)).mp e)))
        refine J_iconst 3 C iL_act_325 rfl ?_
        refine J_st (.int (nI (acD v)) :: .int (v >>> (5 &&& 31)) :: .int 1 :: []) (congrArg (fun z => (.int z :: .int (v >>> (5 &&& 31)) :: .int 1 :: [] : List Value)) (show (3 : Int32) = nI (acD v) from congrArg nI (show 3 = acD v by rw [acD, if_neg hm4]))) ?_
        refine J_lvm [(5, .ref (rw hq)), (4, .int (nI hq)), (3, .int (nI (toN Z))), (0, .ref (x 0)), (1, .ref s), (2, .int v)] rfl ?_
        exact hk326 () trivial

