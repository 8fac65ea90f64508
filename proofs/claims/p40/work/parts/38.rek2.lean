set_option maxRecDepth 100000 in
set_option maxHeartbeats 4000000 in
theorem c_X4_leaf {Z : GZ} {l : Launch} {a : Nat → Nat} {N : Nat} {dg co li : Int32} {pP pH pF pT pS pD pC : Nat → Int32} (hN : N ≤ 12) (ok : StOk N pP pH pF pT li pS pD pC) {op f s : Int32}  : Ct Z l yX4_leaf cX4_leaf 4 (some .int) (rmK 3) [.int op, .int f, .int s, .ref (a 0)] (wSt Z a (nI N) dg co li pP pH pF pT pS pD pC) (fun v w => v = some (.int (lfG N dg pP pH pF pT op f s)) ∧ w = (wSt Z a (nI N) dg co li pP pH pF pT pS pD pC)) := by
  refine Ct.ofJ (own := RX4) (nm := "leaf") (lv0 := [(0, .int op), (1, .int f), (2, .int s), (3, .ref (a 0))]) (by decide) rfl rfl (Nat.le_of_ble_eq_true rfl) rfl (fun X hXl C E => ?_)
  subst hXl
  refine J_iload_n C iX4_leaf_0 rfl rfl ?_
  by_cases hv1_0 : op = 0
  · refine J_tabIn 44 C iX4_leaf_1 (by rw [hv1_0]; decide) (by rw [hv1_0]; decide) (by rw [hv1_0]; rfl) rfl ?_
    refine J_iload_n C iX4_leaf_44 rfl rfl ?_
    exact J_iret C E iX4_leaf_45 ⟨by rw [lfG, if_pos hv1_0], rfl⟩
  by_cases hv1_1 : op = 1
  · refine J_tabIn 46 C iX4_leaf_1 (by rw [hv1_1]; decide) (by rw [hv1_1]; decide) (by rw [hv1_1]; rfl) rfl ?_
    refine J_aload_n C iX4_leaf_46 rfl rfl ?_
    refine J_get (.int dg) 0 C iX4_leaf_47 gf_X4_38 rfl rfl ?_
    exact J_iret C E iX4_leaf_50 ⟨by rw [lfG, if_neg hv1_0, if_pos hv1_1], rfl⟩
  by_cases hv1_2 : op = 2
  · refine J_tabIn 51 C iX4_leaf_1 (by rw [hv1_2]; decide) (by rw [hv1_2]; decide) (by rw [hv1_2]; rfl) rfl ?_
    refine J_aload_n C iX4_leaf_51 rfl rfl ?_
    refine J_cV (As := []) (st := []) (rc2 := (rmK 3).cells) (rs2 := (rmK 3).slots) C iX4_leaf_52 lm_X4_122 yc_X5_mostLost yv_X5_mostLost (c_X5_mostLost hN) (q0 := 0) rfl rfl rfl rfl (rmK_le (by omega) (by decide)) (Nat.le_of_ble_eq_true rfl) rfl rfl ?_
    rintro _ _ ⟨rfl, rfl⟩
    refine J_st (.int (mostN pD N) :: []) rfl ?_
    exact J_iret C E iX4_leaf_55 ⟨by rw [lfG, if_neg hv1_0, if_neg hv1_1, if_pos hv1_2]; rw [mostN_ok ok.2.1], rfl⟩
  by_cases hv1_3 : op = 3
  · refine J_tabIn 56 C iX4_leaf_1 (by rw [hv1_3]; decide) (by rw [hv1_3]; decide) (by rw [hv1_3]; rfl) rfl ?_
    refine J_aload_n C iX4_leaf_56 rfl rfl ?_
    refine J_iload_n C iX4_leaf_57 rfl rfl ?_
    refine J_cV (As := [.int f]) (st := []) (rc2 := (rmK 3).cells) (rs2 := (rmK 3).slots) C iX4_leaf_58 lm_X4_125 yc_X5_lost yv_X5_lost c_X5_lost (q0 := 0) rfl rfl rfl rfl (rmK_le (by omega) (by decide)) (Nat.le_of_ble_eq_true rfl) rfl rfl ?_
    rintro _ _ ⟨rfl, rfl⟩
    refine J_st (.int (bitC (stAt (nI N) f pD 0)) :: []) rfl ?_
    exact J_iret C E iX4_leaf_61 ⟨by rw [lfG, if_neg hv1_0, if_neg hv1_1, if_neg hv1_2, if_pos hv1_3]; rw [lsG, stAt_ok hN ok.2.1], rfl⟩
  by_cases hv1_4 : op = 4
  · refine J_tabIn 62 C iX4_leaf_1 (by rw [hv1_4]; decide) (by rw [hv1_4]; decide) (by rw [hv1_4]; rfl) rfl ?_
    refine J_aload_n C iX4_leaf_62 rfl rfl ?_
    refine J_iload_n C iX4_leaf_63 rfl rfl ?_
    refine J_cV (As := [.int f]) (st := []) (rc2 := (rmK 3).cells) (rs2 := (rmK 3).slots) C iX4_leaf_64 lm_X4_128 yc_X5_cast yv_X5_cast c_X5_cast (q0 := 0) rfl rfl rfl rfl (rmK_le (by omega) (by decide)) (Nat.le_of_ble_eq_true rfl) rfl rfl ?_
    rintro _ _ ⟨rfl, rfl⟩
    refine J_st (.int (stAt (nI N) f pC 0) :: []) rfl ?_
    exact J_iret C E iX4_leaf_67 ⟨by rw [lfG, if_neg hv1_0, if_neg hv1_1, if_neg hv1_2, if_neg hv1_3, if_pos hv1_4]; rw [stAt_ok hN ok.2.2.1], rfl⟩
  by_cases hv1_5 : op = 5
  · refine J_tabIn 68 C iX4_leaf_1 (by rw [hv1_5]; decide) (by rw [hv1_5]; decide) (by rw [hv1_5]; rfl) rfl ?_
    refine J_aload_n C iX4_leaf_68 rfl rfl ?_
    refine J_iload_n C iX4_leaf_69 rfl rfl ?_
    refine J_cV (As := [.int f]) (st := []) (rc2 := (rmK 3).cells) (rs2 := (rmK 3).slots) C iX4_leaf_70 lm_X4_69 yc_X5_height yv_X5_height c_X5_height (q0 := 0) rfl rfl rfl rfl (rmK_le (by omega) (by decide)) (Nat.le_of_ble_eq_true rfl) rfl rfl ?_
    rintro _ _ ⟨rfl, rfl⟩
    refine J_st (.int (stAt (nI N) f pH 0) :: []) rfl ?_
    exact J_iret C E iX4_leaf_73 ⟨by rw [lfG, if_neg hv1_0, if_neg hv1_1, if_neg hv1_2, if_neg hv1_3, if_neg hv1_4, if_pos hv1_5], rfl⟩
  by_cases hv1_6 : op = 6
  · refine J_tabIn 74 C iX4_leaf_1 (by rw [hv1_6]; decide) (by rw [hv1_6]; decide) (by rw [hv1_6]; rfl) rfl ?_
    refine J_aload_n C iX4_leaf_74 rfl rfl ?_
    refine J_iload_n C iX4_leaf_75 rfl rfl ?_
    refine J_iload_n C iX4_leaf_76 rfl rfl ?_
    refine J_cV (As := [.int s, .int f]) (st := []) (rc2 := (rmK 3).cells) (rs2 := (rmK 3).slots) C iX4_leaf_77 lm_X4_131 yc_X5_hoursShaded yv_X5_hoursShaded c_X5_hoursShaded (q0 := 0) rfl rfl rfl rfl (rmK_le (by omega) (by decide)) (Nat.le_of_ble_eq_true rfl) rfl rfl ?_
    rintro _ _ ⟨rfl, rfl⟩
    refine J_st (.int (shF (nI N) pS s f) :: []) rfl ?_
    refine J_ifeq 87 C iX4_leaf_80 rfl (fun h80 => ?_) (fun h80 => ?_)
    · refine J_iconst 0 C iX4_leaf_87 rfl ?_
      refine J_cSp (As := [.int 0]) (st := []) C iX4_leaf_88 lm_X4_118 yc_X4_truth ys_X4_truth (c_X4_truth (b := false)) rfl (rmK_le (by omega) (by decide)) (Nat.le_of_ble_eq_true rfl) ⟨rfl, rfl⟩ ?_
      rintro _ rfl
      refine J_st (.int (b2i false) :: []) rfl ?_
      exact J_iret C E iX4_leaf_91 ⟨by rw [lfG, if_neg hv1_0, if_neg hv1_1, if_neg hv1_2, if_neg hv1_3, if_neg hv1_4, if_neg hv1_5, if_pos hv1_6]; rw [← shF_ok hN ok.1]; simp [h80, b2i], rfl⟩
    · refine J_iconst 1 C iX4_leaf_83 rfl ?_
      refine J_goto 88 C iX4_leaf_84 rfl ?_
      refine J_cSp (As := [.int 1]) (st := []) C iX4_leaf_88 lm_X4_118 yc_X4_truth ys_X4_truth (c_X4_truth (b := true)) rfl (rmK_le (by omega) (by decide)) (Nat.le_of_ble_eq_true rfl) ⟨rfl, rfl⟩ ?_
      rintro _ rfl
      refine J_st (.int (b2i true) :: []) rfl ?_
      exact J_iret C E iX4_leaf_91 ⟨by rw [lfG, if_neg hv1_0, if_neg hv1_1, if_neg hv1_2, if_neg hv1_3, if_neg hv1_4, if_neg hv1_5, if_pos hv1_6]; rw [← shF_ok hN ok.1]; simp [h80, b2i], rfl⟩
  refine J_tabOut 92 C iX4_leaf_1 (by have := i32_ne (c := 0) (n := 0) hv1_0 (by decide); have := i32_ne (c := 1) (n := 1) hv1_1 (by decide); have := i32_ne (c := 2) (n := 2) hv1_2 (by decide); have := i32_ne (c := 3) (n := 3) hv1_3 (by decide); have := i32_ne (c := 4) (n := 4) hv1_4 (by decide); have := i32_ne (c := 5) (n := 5) hv1_5 (by decide); have := i32_ne (c := 6) (n := 6) hv1_6 (by decide); omega) rfl ?_
  refine J_aload_n C iX4_leaf_92 rfl rfl ?_
  refine J_iload_n C iX4_leaf_93 rfl rfl ?_
  refine J_cV (As := [.int f]) (st := []) (rc2 := (rmK 3).cells) (rs2 := (rmK 3).slots) C iX4_leaf_94 lm_X4_125 yc_X5_lost yv_X5_lost c_X5_lost (q0 := 0) rfl rfl rfl rfl (rmK_le (by omega) (by decide)) (Nat.le_of_ble_eq_true rfl) rfl rfl ?_
  rintro _ _ ⟨rfl, rfl⟩
  refine J_st (.int (bitC (stAt (nI N) f pD 0)) :: []) rfl ?_
  refine J_ifeq 104 C iX4_leaf_97 rfl (fun h97 => ?_) (fun h97 => ?_)
  · refine J_iconst 0 C iX4_leaf_104 rfl ?_
    refine J_cSp (As := [.int 0]) (st := []) C iX4_leaf_105 lm_X4_118 yc_X4_truth ys_X4_truth (c_X4_truth (b := false)) rfl (rmK_le (by omega) (by decide)) (Nat.le_of_ble_eq_true rfl) ⟨rfl, rfl⟩ ?_
    rintro _ rfl
    refine J_st (.int (b2i false) :: []) rfl ?_
    exact J_iret C E iX4_leaf_108 ⟨by rw [lfG, if_neg hv1_0, if_neg hv1_1, if_neg hv1_2, if_neg hv1_3, if_neg hv1_4, if_neg hv1_5, if_neg hv1_6]; rw [lsG, ← stAt_ok hN ok.2.1]; simp [h97, b2i], rfl⟩
  · refine J_iconst 1 C iX4_leaf_100 rfl ?_
    refine J_goto 105 C iX4_leaf_101 rfl ?_
    refine J_cSp (As := [.int 1]) (st := []) C iX4_leaf_105 lm_X4_118 yc_X4_truth ys_X4_truth (c_X4_truth (b := true)) rfl (rmK_le (by omega) (by decide)) (Nat.le_of_ble_eq_true rfl) ⟨rfl, rfl⟩ ?_
    rintro _ rfl
    refine J_st (.int (b2i true) :: []) rfl ?_
    exact J_iret C E iX4_leaf_108 ⟨by rw [lfG, if_neg hv1_0, if_neg hv1_1, if_neg hv1_2, if_neg hv1_3, if_neg hv1_4, if_neg hv1_5, if_neg hv1_6]; rw [lsG, ← stAt_ok hN ok.2.1]; simp [h97, b2i], rfl⟩

set_option maxRecDepth 100000 in
set_option maxHeartbeats 4000000 in
theorem c_X4_push {Z : GZ} {l : Launch} {r b : Nat → Nat} {d : Nat} {ss : Nat → Int32} {x : Int32} (hd : d ≤ 400)  : Ct Z l yX4_push cX4_push 2 none (rmK 0) [.ref (r 0), .int x] (wRk Z r b (nI d) ss) (fun v w => v = none ∧ w = (wRk Z r b (nI (inc d 400)) (updC ss d 400 x))) := by
  refine Ct.ofJ (own := RX4) (nm := "push") (lv0 := [(0, .ref (r 0)), (1, .int x)]) (by decide) rfl rfl (Nat.le_of_ble_eq_true rfl) rfl (fun X hXl C E => ?_)
  subst hXl
  by_cases hm2 : d < 400
  · refine J_aload_n C iX4_push_0 rfl rfl ?_
    refine J_get (.int (nI d)) 0 C iX4_push_1 gf_X4_81 rfl rfl ?_
    refine J_iflt 39 C iX4_push_4 rfl (fun h4 => absurd h4 (nI_pos (n := d) (by omega))) (fun h4 => ?_)
    refine J_aload_n C iX4_push_7 rfl rfl ?_
    refine J_get (.int (nI d)) 0 C iX4_push_8 gf_X4_81 rfl rfl ?_
    refine J_aload_n C iX4_push_11 rfl rfl ?_
    refine J_get (.ref (r 1)) 0 C iX4_push_12 gf_X4_9 rfl rfl ?_
    refine J_alen (t0 := 0) 400 1 C iX4_push_15 rfl rfl rfl ?_
    refine J_icmpge 39 C iX4_push_16 rfl (fun h16 => absurd h16 (nI_ge (a := d) (b := 400) (by omega) (by omega))) (fun h16 => ?_)
    refine J_aload_n C iX4_push_19 rfl rfl ?_
    refine J_get (.ref (r 1)) 0 C iX4_push_20 gf_X4_9 rfl rfl ?_
    refine J_aload_n C iX4_push_23 rfl rfl ?_
    refine J_get (.int (nI d)) 0 C iX4_push_24 gf_X4_81 rfl rfl ?_
    refine J_iload_n C iX4_push_27 rfl rfl ?_
    refine J_iast (wRk Z r b (nI d) (upd ss (nI d).toNatClampNeg x)) 1 C iX4_push_28 rfl (vp_in_nI (n := d) (by omega) (by decide)) rfl ?_
    rw [nI_clamp (n := d) (by omega)]
    refine J_aload_n C iX4_push_29 rfl rfl ?_
    refine J_dup C iX4_push_30 rfl ?_
    refine J_get (.int (nI d)) 0 C iX4_push_31 gf_X4_81 rfl rfl ?_
    refine J_iconst 1 C iX4_push_34 rfl ?_
    refine J_iadd C iX4_push_35 ?_
    rw [show (nI d) + 1 = nI (d + 1) from nI_add _ _]
    refine J_put (wRk Z r b (nI (d + 1)) (upd ss d x)) 0 C iX4_push_36 pf_X4_81 rfl rfl rfl (Nat.le_of_ble_eq_true rfl) rfl ?_
    exact J_vret C E iX4_push_39 ⟨rfl, by simp only [inc, updC, if_pos hm2]⟩
  · refine J_aload_n C iX4_push_0 rfl rfl ?_
    refine J_get (.int (nI d)) 0 C iX4_push_1 gf_X4_81 rfl rfl ?_
    refine J_iflt 39 C iX4_push_4 rfl (fun h4 => absurd h4 (nI_pos (n := d) (by omega))) (fun h4 => ?_)
    refine J_aload_n C iX4_push_7 rfl rfl ?_
    refine J_get (.int (nI d)) 0 C iX4_push_8 gf_X4_81 rfl rfl ?_
    refine J_aload_n C iX4_push_11 rfl rfl ?_
    refine J_get (.ref (r 1)) 0 C iX4_push_12 gf_X4_9 rfl rfl ?_
    refine J_alen (t0 := 0) 400 1 C iX4_push_15 rfl rfl rfl ?_
    refine J_icmpge 39 C iX4_push_16 rfl (fun h16 => ?_) (fun h16 => absurd (nI_le (a := 400) (b := d) (by omega) (by omega)) h16)
    exact J_vret C E iX4_push_39 ⟨rfl, by simp only [inc, updC, if_neg hm2]⟩

set_option maxRecDepth 100000 in
set_option maxHeartbeats 4000000 in
theorem c_X4_pop {Z : GZ} {l : Launch} {r b : Nat → Nat} {d : Nat} {ss : Nat → Int32} (hd : d ≤ 400)  : Ct Z l yX4_pop cX4_pop 1 (some .int) (rmK 0) [.ref (r 0)] (wRk Z r b (nI d) ss) (fun v w => v = some (.int (ppF ss d)) ∧ w = (wRk Z r b (nI (d - 1)) ss)) := by
  refine Ct.ofJ (own := RX4) (nm := "pop") (lv0 := [(0, .ref (r 0))]) (by decide) rfl rfl (Nat.le_of_ble_eq_true rfl) rfl (fun X hXl C E => ?_)
  subst hXl
  rcases d with _ | d
  · refine J_aload_n C iX4_pop_0 rfl rfl ?_
    refine J_get (.int (nI 0)) 0 C iX4_pop_1 gf_X4_81 rfl rfl ?_
    refine J_ifle 19 C iX4_pop_4 rfl (fun h4 => ?_) (fun h4 => absurd (by decide) h4)
    refine J_iconst 0 C iX4_pop_19 rfl ?_
    exact J_iret C E iX4_pop_20 ⟨rfl, rfl⟩
  · refine J_aload_n C iX4_pop_0 rfl rfl ?_
    refine J_get (.int (nI (d + 1))) 0 C iX4_pop_1 gf_X4_81 rfl rfl ?_
    refine J_ifle 19 C iX4_pop_4 rfl (fun h4 => absurd h4 (nI_nle (n := d + 1) (by omega) (by omega))) (fun h4 => ?_)
    refine J_aload_n C iX4_pop_7 rfl rfl ?_
    refine J_get (.int (nI (d + 1))) 0 C iX4_pop_8 gf_X4_81 rfl rfl ?_
    refine J_aload_n C iX4_pop_11 rfl rfl ?_
    refine J_get (.ref (r 1)) 0 C iX4_pop_12 gf_X4_9 rfl rfl ?_
    refine J_alen (t0 := 0) 400 1 C iX4_pop_15 rfl rfl rfl ?_
    refine J_icmple 21 C iX4_pop_16 rfl (fun h16 => ?_) (fun h16 => absurd (nI_le (a := (d + 1)) (b := 400) (by omega) (by omega)) h16)
    refine J_aload_n C iX4_pop_21 rfl rfl ?_
    refine J_dup C iX4_pop_22 rfl ?_
    refine J_get (.int (nI (d + 1))) 0 C iX4_pop_23 gf_X4_81 rfl rfl ?_
    refine J_iconst 1 C iX4_pop_26 rfl ?_
    refine J_isub C iX4_pop_27 ?_
    rw [show (nI (d + 1)) - 1 = nI d from nI_pred d]
    refine J_put (wRk Z r b (nI d) ss) 0 C iX4_pop_28 pf_X4_81 rfl rfl rfl (Nat.le_of_ble_eq_true rfl) rfl ?_
    refine J_aload_n C iX4_pop_31 rfl rfl ?_
    refine J_get (.ref (r 1)) 0 C iX4_pop_32 gf_X4_9 rfl rfl ?_
    refine J_aload_n C iX4_pop_35 rfl rfl ?_
    refine J_get (.int (nI d)) 0 C iX4_pop_36 gf_X4_81 rfl rfl ?_
    refine J_iald 1 C iX4_pop_39 rfl (vp_in_nI (n := d) (by omega) (by decide)) ?_
    rw [nI_clamp (n := d) (by omega)]
    exact J_iret C E iX4_pop_40 ⟨rfl, rfl⟩

theorem max0_nI {n : Nat} (h : n ≤ 400) : (if nI n < 0 then 0 else nI n) = nI n := if_neg (nI_pos (by omega))
set_option maxRecDepth 100000 in
set_option maxHeartbeats 4000000 in
theorem c_X4_reckon {Z : GZ} {l : Launch} {r : Nat → Nat} {sk : Int32} {ss : Nat → Int32} {b L : Nat → Nat} {hc lc sc : Int32} {nm : Nat → Int64} {bP bH op f1 f2 l0 l1 l2 l3 l4 l5 : Nat → Int32} {a : Nat → Nat} {N : Nat} {dg co li : Int32} {pP pH pF pT pS pD pC : Nat → Int32} (hN : N ≤ 12) (ok : StOk N pP pH pF pT li pS pD pC) {lo hi : Nat} (hlo : lo ≤ 400) (hhi : hi ≤ 400)  : Ct Z l yX4_reckon cX4_reckon 8 (some .int) (rmK 4) [.ref (r 0), .int (nI lo), .int (nI hi), .ref (a 0)] ((wRk Z r b sk ss ++ wBk Z b L hc lc sc nm bP bH op f1 f2 l0 l1 l2 l3 l4 l5) ++ wSt Z a (nI N) dg co li pP pH pF pT pS pD pC) (fun v w => ∃ d2 ss3, d2 ≤ 400 ∧ v = some (.int (rkX (lfG N dg pP pH pF pT) op f1 f2 lo hi)) ∧ w = ((wRk Z r b (nI d2) ss3 ++ wBk Z b L hc lc sc nm bP bH op f1 f2 l0 l1 l2 l3 l4 l5) ++ wSt Z a (nI N) dg co li pP pH pF pT pS pD pC)) := by
  refine Ct.ofJ (own := RX4) (nm := "reckon") (lv0 := [(0, .ref (r 0)), (1, .int (nI lo)), (2, .int (nI hi)), (3, .ref (a 0))]) (by decide) rfl rfl (Nat.le_of_ble_eq_true rfl) rfl (fun X hXl C E => ?_)
  subst hXl
  refine J_aload_n C iX4_reckon_0 rfl rfl ?_
  refine J_iconst 0 C iX4_reckon_1 rfl ?_
  refine J_put ((wRk Z r b 0 ss ++ wBk Z b L hc lc sc nm bP bH op f1 f2 l0 l1 l2 l3 l4 l5) ++ wSt Z a (nI N) dg co li pP pH pF pT pS pD pC) 0 C iX4_reckon_2 pf_X4_81 rfl rfl rfl (Nat.le_of_ble_eq_true rfl) rfl ?_
  refine J_iload_n C iX4_reckon_5 rfl rfl ?_
  refine J_iconst 0 C iX4_reckon_6 rfl ?_
  refine J_imax C iX4_reckon_7 (tsg_in (i := 638) (by decide +kernel) rfl) ma_imax_1 ma_i ma_imax_2 (by decide) (Nat.le_of_ble_eq_true rfl) ?_
  refine J_istore [(4, .int (if nI lo < 0 then 0 else nI lo)), (0, .ref (r 0)), (1, .int (nI lo)), (2, .int (nI hi)), (3, .ref (a 0))] C iX4_reckon_10 (by decide) rfl ?_
  rw [max0_nI hlo]
  refine J_lvm [(4, .int (nI lo)), (0, .ref (r 0)), (2, .int (nI hi)), (3, .ref (a 0))] rfl ?_
  refine J_ws ((wRk Z r b (nI 0) ss ++ wBk Z b L hc lc sc nm bP bH op f1 f2 l0 l1 l2 l3 l4 l5) ++ wSt Z a (nI N) dg co li pP pH pF pT pS pD pC) rfl ?_
  refine J_forI (σ := Nat × (Nat → Int32)) (fun k q => [(4, .int (nI k)), (0, .ref (r 0)), (2, .int (nI hi)), (3, .ref (a 0))]) (fun k q => ((wRk Z r b (nI q.1) q.2 ++ wBk Z b L hc lc sc nm bP bH op f1 f2 l0 l1 l2 l3 l4 l5) ++ wSt Z a (nI N) dg co li pP pH pF pT pS pD pC)) (fun k q => ∃ xs, SkR q.2 q.1 xs ∧ evL (lfG N dg pP pH pF pT) op f1 f2 k (hi - k) xs = evL (lfG N dg pP pH pF pT) op f1 f2 lo (hi - lo) []) (max lo hi) lo (0, ss) (by omega) ⟨[], ⟨rfl, Nat.zero_le _, trivial⟩, rfl⟩ ?_ ?_
  · rintro ⟨d, ss2⟩ ⟨xs, hxs, hI⟩
    dsimp only at hxs ⊢
    have hd := hxs.2.1
    refine J_iload C iX4_reckon_12 rfl ?_
    refine J_iload_n C iX4_reckon_14 rfl rfl ?_
    refine J_icmpge 168 C iX4_reckon_15 rfl (fun h15 => ?_) (fun h15 => absurd (nI_le (a := hi) (b := max lo hi) (by omega) (by omega)) h15)
    refine J_aload_n C iX4_reckon_168 rfl rfl ?_
    refine J_cVb (As := []) (st := []) (rc2 := (rmK 4).cells) (rs2 := (rmK 4).slots) C iX4_reckon_169 lm_X4_107 yc_X4_pop yv_X4_pop (c_X4_pop (d := d) (by omega)) (q0 := 0) rfl rfl rfl [] (wBk Z b L hc lc sc nm bP bH op f1 f2 l0 l1 l2 l3 l4 l5 ++ wSt Z a (nI N) dg co li pP pH pF pT pS pD pC) rfl rfl (rmK_le (by omega) (by decide)) (Nat.le_of_ble_eq_true rfl) rfl rfl ?_
    rintro _ _ ⟨rfl, rfl⟩
    refine J_st (.int (ppF ss2 d) :: []) rfl ?_
    refine J_ws ((wRk Z r b (nI (d - 1)) ss2 ++ wBk Z b L hc lc sc nm bP bH op f1 f2 l0 l1 l2 l3 l4 l5) ++ wSt Z a (nI N) dg co li pP pH pF pT pS pD pC) rfl ?_
    exact J_iret C E iX4_reckon_172 ⟨d - 1, ss2, by omega, by rw [(skr_pop hxs).2, rkX, ← hI, show hi - max lo hi = 0 by omega]; rfl, rfl⟩
  · rintro k ⟨d, ss2⟩ hk0 hk ⟨xs, hxs, hI⟩ ih
    have hkh : k < hi := by omega
    dsimp only at hxs ⊢
    have hd := hxs.2.1
    refine J_iload C iX4_reckon_12 rfl ?_
    refine J_iload_n C iX4_reckon_14 rfl rfl ?_
    refine J_icmpge 168 C iX4_reckon_15 rfl (fun h15 => absurd h15 (nI_ge (a := k) (b := hi) (by omega) (by omega))) (fun h15 => ?_)
    refine J_iload C iX4_reckon_18 rfl ?_
    refine J_sipush 400 C iX4_reckon_20 rfl ?_
    refine J_icmpge 168 C iX4_reckon_23 rfl (fun h23 => absurd h23 (nI_ge (a := k) (b := 400) (by omega) (by decide))) (fun h23 => ?_)
    refine J_aload_n C iX4_reckon_26 rfl rfl ?_
    refine J_get (.ref (b 0)) 0 C iX4_reckon_27 gf_X4_15 rfl rfl ?_
    refine J_get (.ref (b 5)) 2 C iX4_reckon_30 gf_X4_90 rfl rfl ?_
    refine J_iload C iX4_reckon_33 rfl ?_
    refine J_iald 7 C iX4_reckon_35 rfl (vp_in_nI (n := k) (by omega) (by decide)) ?_
    rw [nI_clamp (n := k) (by omega)]
    refine J_istore [(5, .int (op k)), (4, .int (nI k)), (0, .ref (r 0)), (2, .int (nI hi)), (3, .ref (a 0))] C iX4_reckon_36 (by decide) rfl ?_
    refine J_iload C iX4_reckon_38 rfl ?_
    refine J_bipush 7 C iX4_reckon_40 rfl ?_
    refine J_icmpgt 78 C iX4_reckon_42 rfl (fun h42 => ?_) (fun h42 => ?_)
    · refine J_iload C iX4_reckon_78 rfl ?_
      refine J_bipush 9 C iX4_reckon_80 rfl ?_
      refine J_icmpgt 115 C iX4_reckon_82 rfl (fun h82 => ?_) (fun h82 => ?_)
      · refine J_aload_n C iX4_reckon_115 rfl rfl ?_
        refine J_cVb (As := []) (st := []) (rc2 := (rmK 4).cells) (rs2 := (rmK 4).slots) C iX4_reckon_116 lm_X4_107 yc_X4_pop yv_X4_pop (c_X4_pop (d := d) (by omega)) (q0 := 0) rfl rfl rfl [] (wBk Z b L hc lc sc nm bP bH op f1 f2 l0 l1 l2 l3 l4 l5 ++ wSt Z a (nI N) dg co li pP pH pF pT pS pD pC) rfl rfl (rmK_le (by omega) (by decide)) (Nat.le_of_ble_eq_true rfl) rfl rfl ?_
        rintro _ _ ⟨rfl, rfl⟩
        refine J_st (.int (ppF ss2 d) :: []) rfl ?_
        refine J_ws ((wRk Z r b (nI (d - 1)) ss2 ++ wBk Z b L hc lc sc nm bP bH op f1 f2 l0 l1 l2 l3 l4 l5) ++ wSt Z a (nI N) dg co li pP pH pF pT pS pD pC) rfl ?_
        refine J_istore [(6, .int (ppF ss2 d)), (5, .int (op k)), (4, .int (nI k)), (0, .ref (r 0)), (2, .int (nI hi)), (3, .ref (a 0))] C iX4_reckon_119 (by decide) rfl ?_
        refine J_aload_n C iX4_reckon_121 rfl rfl ?_
        refine J_cVb (As := []) (st := []) (rc2 := (rmK 4).cells) (rs2 := (rmK 4).slots) C iX4_reckon_122 lm_X4_107 yc_X4_pop yv_X4_pop (c_X4_pop (d := (d - 1)) (by omega)) (q0 := 0) rfl rfl rfl [] (wBk Z b L hc lc sc nm bP bH op f1 f2 l0 l1 l2 l3 l4 l5 ++ wSt Z a (nI N) dg co li pP pH pF pT pS pD pC) rfl rfl (rmK_le (by omega) (by decide)) (Nat.le_of_ble_eq_true rfl) rfl rfl ?_
        rintro _ _ ⟨rfl, rfl⟩
        refine J_st (.int (ppF ss2 (d - 1)) :: []) rfl ?_
        refine J_ws ((wRk Z r b (nI ((d - 1) - 1)) ss2 ++ wBk Z b L hc lc sc nm bP bH op f1 f2 l0 l1 l2 l3 l4 l5) ++ wSt Z a (nI N) dg co li pP pH pF pT pS pD pC) rfl ?_
        refine J_istore [(7, .int (ppF ss2 (d - 1))), (6, .int (ppF ss2 d)), (5, .int (op k)), (4, .int (nI k)), (0, .ref (r 0)), (2, .int (nI hi)), (3, .ref (a 0))] C iX4_reckon_125 (by decide) rfl ?_
        refine J_aload_n C iX4_reckon_127 rfl rfl ?_
        refine J_iload C iX4_reckon_128 rfl ?_
        refine J_bipush 16 C iX4_reckon_130 rfl ?_
        refine J_icmpge 147 C iX4_reckon_132 rfl (fun h132 => ?_) (fun h132 => ?_)
        · refine J_iload C iX4_reckon_147 rfl ?_
          refine J_iload C iX4_reckon_149 rfl ?_
          refine J_iload C iX4_reckon_151 rfl ?_
          refine J_cSp (As := [.int (op k), .int (ppF ss2 (d - 1)), .int (ppF ss2 d)]) (st := .ref (r 0) :: []) C iX4_reckon_153 lm_X4_115 yc_X4_testOf ys_X4_testOf (c_X4_testOf (op := op k) (l_ := ppF ss2 (d - 1)) (r_ := ppF ss2 d)) rfl (rmK_le (by omega) (by decide)) (Nat.le_of_ble_eq_true rfl) ⟨rfl, rfl⟩ ?_
          rintro _ rfl
          refine J_st (.int (b2i (tsX (op k) (ppF ss2 (d - 1)) (ppF ss2 d))) :: .ref (r 0) :: []) rfl ?_
          refine J_cSp (As := [.int (b2i (tsX (op k) (ppF ss2 (d - 1)) (ppF ss2 d)))]) (st := .ref (r 0) :: []) C iX4_reckon_156 lm_X4_118 yc_X4_truth ys_X4_truth (c_X4_truth (b := tsX (op k) (ppF ss2 (d - 1)) (ppF ss2 d))) rfl (rmK_le (by omega) (by decide)) (Nat.le_of_ble_eq_true rfl) ⟨rfl, rfl⟩ ?_
          rintro _ rfl
          refine J_st (.int (b2i (tsX (op k) (ppF ss2 (d - 1)) (ppF ss2 d))) :: .ref (r 0) :: []) rfl ?_
          refine J_cVb (As := [.int (b2i (tsX (op k) (ppF ss2 (d - 1)) (ppF ss2 d)))]) (st := []) (rc2 := (rmK 4).cells) (rs2 := (rmK 4).slots) C iX4_reckon_159 lm_X4_103 yc_X4_push yv_X4_push (c_X4_push (d := ((d - 1) - 1)) (x := b2i (tsX (op k) (ppF ss2 (d - 1)) (ppF ss2 d))) (by omega)) (q0 := 0) rfl rfl rfl [] (wBk Z b L hc lc sc nm bP bH op f1 f2 l0 l1 l2 l3 l4 l5 ++ wSt Z a (nI N) dg co li pP pH pF pT pS pD pC) rfl rfl (rmK_le (by omega) (by decide)) (Nat.le_of_ble_eq_true rfl) rfl rfl ?_
          rintro _ _ ⟨rfl, rfl⟩
          refine J_st ([]) rfl ?_
          refine J_ws ((wRk Z r b (nI (inc ((d - 1) - 1) 400)) (updC ss2 ((d - 1) - 1) 400 (b2i (tsX (op k) (ppF ss2 (d - 1)) (ppF ss2 d)))) ++ wBk Z b L hc lc sc nm bP bH op f1 f2 l0 l1 l2 l3 l4 l5) ++ wSt Z a (nI N) dg co li pP pH pF pT pS pD pC) rfl ?_
          have hp1 := inc_le (s := ((d - 1) - 1)) (by omega)
          refine J_iinc ((nI k) + 1) [(4, .int ((nI k) + 1)), (7, .int (ppF ss2 (d - 1))), (6, .int (ppF ss2 d)), (5, .int (op k)), (0, .ref (r 0)), (2, .int (nI hi)), (3, .ref (a 0))] C iX4_reckon_162 rfl rfl (by decide) rfl ?_
          rw [show (nI k) + 1 = nI (k + 1) from nI_add _ _]
          refine J_goto 12 C iX4_reckon_165 rfl ?_
          refine J_lvm [(4, .int (nI (k + 1))), (0, .ref (r 0)), (2, .int (nI hi)), (3, .ref (a 0))] rfl ?_
          obtain ⟨g1, g2⟩ := skr_pop hxs
          obtain ⟨g3, g4⟩ := skr_pop g1
          have hq := skr_push (b2i (tsX (op k) (xs.tail.headD 0) (xs.headD 0))) g3
          have hz : evS (lfG N dg pP pH pF pT) (op k) (f1 k) (f2 k) xs = psh (b2i (tsX (op k) (xs.tail.headD 0) (xs.headD 0))) xs.tail.tail := by rw [evS, if_pos h42, if_pos h82, if_pos h132]
          rw [g2, g4]
          refine ih (_, _) ⟨_, hq, ?_⟩
          rw [← hI, show hi - k = (hi - (k + 1)) + 1 by omega, evL, hz]
        · refine J_iload C iX4_reckon_135 rfl ?_
          refine J_iload C iX4_reckon_137 rfl ?_
          refine J_iload C iX4_reckon_139 rfl ?_
          refine J_cSp (As := [.int (op k), .int (ppF ss2 (d - 1)), .int (ppF ss2 d)]) (st := .ref (r 0) :: []) C iX4_reckon_141 lm_X4_111 yc_X4_sumOf ys_X4_sumOf (c_X4_sumOf (op := op k) (l_ := ppF ss2 (d - 1)) (r_ := ppF ss2 d)) rfl (rmK_le (by omega) (by decide)) (Nat.le_of_ble_eq_true rfl) ⟨rfl, rfl⟩ ?_
          rintro _ rfl
          refine J_st (.int (smX (op k) (ppF ss2 (d - 1)) (ppF ss2 d)) :: .ref (r 0) :: []) rfl ?_
          refine J_goto 159 C iX4_reckon_144 rfl ?_
          refine J_cVb (As := [.int (smX (op k) (ppF ss2 (d - 1)) (ppF ss2 d))]) (st := []) (rc2 := (rmK 4).cells) (rs2 := (rmK 4).slots) C iX4_reckon_159 lm_X4_103 yc_X4_push yv_X4_push (c_X4_push (d := ((d - 1) - 1)) (x := smX (op k) (ppF ss2 (d - 1)) (ppF ss2 d)) (by omega)) (q0 := 0) rfl rfl rfl [] (wBk Z b L hc lc sc nm bP bH op f1 f2 l0 l1 l2 l3 l4 l5 ++ wSt Z a (nI N) dg co li pP pH pF pT pS pD pC) rfl rfl (rmK_le (by omega) (by decide)) (Nat.le_of_ble_eq_true rfl) rfl rfl ?_
          rintro _ _ ⟨rfl, rfl⟩
          refine J_st ([]) rfl ?_
          refine J_ws ((wRk Z r b (nI (inc ((d - 1) - 1) 400)) (updC ss2 ((d - 1) - 1) 400 (smX (op k) (ppF ss2 (d - 1)) (ppF ss2 d))) ++ wBk Z b L hc lc sc nm bP bH op f1 f2 l0 l1 l2 l3 l4 l5) ++ wSt Z a (nI N) dg co li pP pH pF pT pS pD pC) rfl ?_
          have hp2 := inc_le (s := ((d - 1) - 1)) (by omega)
          refine J_iinc ((nI k) + 1) [(4, .int ((nI k) + 1)), (7, .int (ppF ss2 (d - 1))), (6, .int (ppF ss2 d)), (5, .int (op k)), (0, .ref (r 0)), (2, .int (nI hi)), (3, .ref (a 0))] C iX4_reckon_162 rfl rfl (by decide) rfl ?_
          rw [show (nI k) + 1 = nI (k + 1) from nI_add _ _]
          refine J_goto 12 C iX4_reckon_165 rfl ?_
          refine J_lvm [(4, .int (nI (k + 1))), (0, .ref (r 0)), (2, .int (nI hi)), (3, .ref (a 0))] rfl ?_
          obtain ⟨g1, g2⟩ := skr_pop hxs
          obtain ⟨g3, g4⟩ := skr_pop g1
          have hq := skr_push (smX (op k) (xs.tail.headD 0) (xs.headD 0)) g3
          have hz : evS (lfG N dg pP pH pF pT) (op k) (f1 k) (f2 k) xs = psh (smX (op k) (xs.tail.headD 0) (xs.headD 0)) xs.tail.tail := by rw [evS, if_pos h42, if_pos h82, if_neg h132]
          rw [g2, g4]
          refine ih (_, _) ⟨_, hq, ?_⟩
          rw [← hI, show hi - k = (hi - (k + 1)) + 1 by omega, evL, hz]
      · refine J_aload_n C iX4_reckon_85 rfl rfl ?_
        refine J_cVb (As := []) (st := []) (rc2 := (rmK 4).cells) (rs2 := (rmK 4).slots) C iX4_reckon_86 lm_X4_107 yc_X4_pop yv_X4_pop (c_X4_pop (d := d) (by omega)) (q0 := 0) rfl rfl rfl [] (wBk Z b L hc lc sc nm bP bH op f1 f2 l0 l1 l2 l3 l4 l5 ++ wSt Z a (nI N) dg co li pP pH pF pT pS pD pC) rfl rfl (rmK_le (by omega) (by decide)) (Nat.le_of_ble_eq_true rfl) rfl rfl ?_
        rintro _ _ ⟨rfl, rfl⟩
        refine J_st (.int (ppF ss2 d) :: []) rfl ?_
        refine J_ws ((wRk Z r b (nI (d - 1)) ss2 ++ wBk Z b L hc lc sc nm bP bH op f1 f2 l0 l1 l2 l3 l4 l5) ++ wSt Z a (nI N) dg co li pP pH pF pT pS pD pC) rfl ?_
        refine J_istore [(6, .int (ppF ss2 d)), (5, .int (op k)), (4, .int (nI k)), (0, .ref (r 0)), (2, .int (nI hi)), (3, .ref (a 0))] C iX4_reckon_89 (by decide) rfl ?_
        refine J_aload_n C iX4_reckon_91 rfl rfl ?_
        refine J_iload C iX4_reckon_92 rfl ?_
        refine J_bipush 8 C iX4_reckon_94 rfl ?_
        refine J_icmpne 105 C iX4_reckon_96 rfl (fun h96 => ?_) (fun h96 => ?_)
        · refine J_iconst 1 C iX4_reckon_105 rfl ?_
          refine J_iload C iX4_reckon_106 rfl ?_
          refine J_isub C iX4_reckon_108 ?_
          refine J_cVb (As := [.int (1 - (ppF ss2 d))]) (st := []) (rc2 := (rmK 4).cells) (rs2 := (rmK 4).slots) C iX4_reckon_109 lm_X4_103 yc_X4_push yv_X4_push (c_X4_push (d := (d - 1)) (x := 1 - (ppF ss2 d)) (by omega)) (q0 := 0) rfl rfl rfl [] (wBk Z b L hc lc sc nm bP bH op f1 f2 l0 l1 l2 l3 l4 l5 ++ wSt Z a (nI N) dg co li pP pH pF pT pS pD pC) rfl rfl (rmK_le (by omega) (by decide)) (Nat.le_of_ble_eq_true rfl) rfl rfl ?_
          rintro _ _ ⟨rfl, rfl⟩
          refine J_st ([]) rfl ?_
          refine J_ws ((wRk Z r b (nI (inc (d - 1) 400)) (updC ss2 (d - 1) 400 (1 - (ppF ss2 d))) ++ wBk Z b L hc lc sc nm bP bH op f1 f2 l0 l1 l2 l3 l4 l5) ++ wSt Z a (nI N) dg co li pP pH pF pT pS pD pC) rfl ?_
          have hp3 := inc_le (s := (d - 1)) (by omega)
          refine J_goto 162 C iX4_reckon_112 rfl ?_
          refine J_iinc ((nI k) + 1) [(4, .int ((nI k) + 1)), (6, .int (ppF ss2 d)), (5, .int (op k)), (0, .ref (r 0)), (2, .int (nI hi)), (3, .ref (a 0))] C iX4_reckon_162 rfl rfl (by decide) rfl ?_
          rw [show (nI k) + 1 = nI (k + 1) from nI_add _ _]
          refine J_goto 12 C iX4_reckon_165 rfl ?_
          refine J_lvm [(4, .int (nI (k + 1))), (0, .ref (r 0)), (2, .int (nI hi)), (3, .ref (a 0))] rfl ?_
          obtain ⟨g1, g2⟩ := skr_pop hxs
          have hq := skr_push (1 - xs.headD 0) g1
          have hz : evS (lfG N dg pP pH pF pT) (op k) (f1 k) (f2 k) xs = psh (1 - xs.headD 0) xs.tail := by rw [evS, if_pos h42, if_neg h82, if_neg h96]
          rw [g2]
          refine ih (_, _) ⟨_, hq, ?_⟩
          rw [← hI, show hi - k = (hi - (k + 1)) + 1 by omega, evL, hz]
        · refine J_iload C iX4_reckon_99 rfl ?_
          refine J_ineg C iX4_reckon_101 ?_
          refine J_goto 109 C iX4_reckon_102 rfl ?_
          refine J_cVb (As := [.int (-(ppF ss2 d))]) (st := []) (rc2 := (rmK 4).cells) (rs2 := (rmK 4).slots) C iX4_reckon_109 lm_X4_103 yc_X4_push yv_X4_push (c_X4_push (d := (d - 1)) (x := -(ppF ss2 d)) (by omega)) (q0 := 0) rfl rfl rfl [] (wBk Z b L hc lc sc nm bP bH op f1 f2 l0 l1 l2 l3 l4 l5 ++ wSt Z a (nI N) dg co li pP pH pF pT pS pD pC) rfl rfl (rmK_le (by omega) (by decide)) (Nat.le_of_ble_eq_true rfl) rfl rfl ?_
          rintro _ _ ⟨rfl, rfl⟩
          refine J_st ([]) rfl ?_
          refine J_ws ((wRk Z r b (nI (inc (d - 1) 400)) (updC ss2 (d - 1) 400 (-(ppF ss2 d))) ++ wBk Z b L hc lc sc nm bP bH op f1 f2 l0 l1 l2 l3 l4 l5) ++ wSt Z a (nI N) dg co li pP pH pF pT pS pD pC) rfl ?_
          have hp4 := inc_le (s := (d - 1)) (by omega)
          refine J_goto 162 C iX4_reckon_112 rfl ?_
          refine J_iinc ((nI k) + 1) [(4, .int ((nI k) + 1)), (6, .int (ppF ss2 d)), (5, .int (op k)), (0, .ref (r 0)), (2, .int (nI hi)), (3, .ref (a 0))] C iX4_reckon_162 rfl rfl (by decide) rfl ?_
          rw [show (nI k) + 1 = nI (k + 1) from nI_add _ _]
          refine J_goto 12 C iX4_reckon_165 rfl ?_
          refine J_lvm [(4, .int (nI (k + 1))), (0, .ref (r 0)), (2, .int (nI hi)), (3, .ref (a 0))] rfl ?_
          obtain ⟨g1, g2⟩ := skr_pop hxs
          have hq := skr_push (-(xs.headD 0)) g1
          have hz : evS (lfG N dg pP pH pF pT) (op k) (f1 k) (f2 k) xs = psh (-(xs.headD 0)) xs.tail := by rw [evS, if_pos h42, if_neg h82, if_pos h96]
          rw [g2]
          refine ih (_, _) ⟨_, hq, ?_⟩
          rw [← hI, show hi - k = (hi - (k + 1)) + 1 by omega, evL, hz]
    · refine J_aload_n C iX4_reckon_45 rfl rfl ?_
      refine J_iload C iX4_reckon_46 rfl ?_
      refine J_aload_n C iX4_reckon_48 rfl rfl ?_
      refine J_get (.ref (b 0)) 0 C iX4_reckon_49 gf_X4_15 rfl rfl ?_
      refine J_get (.ref (b 6)) 2 C iX4_reckon_52 gf_X4_93 rfl rfl ?_
      refine J_iload C iX4_reckon_55 rfl ?_
      refine J_iald 8 C iX4_reckon_57 rfl (vp_in_nI (n := k) (by omega) (by decide)) ?_
      rw [nI_clamp (n := k) (by omega)]
      refine J_aload_n C iX4_reckon_58 rfl rfl ?_
      refine J_get (.ref (b 0)) 0 C iX4_reckon_59 gf_X4_15 rfl rfl ?_
      refine J_get (.ref (b 7)) 2 C iX4_reckon_62 gf_X4_96 rfl rfl ?_
      refine J_iload C iX4_reckon_65 rfl ?_
      refine J_iald 9 C iX4_reckon_67 rfl (vp_in_nI (n := k) (by omega) (by decide)) ?_
      rw [nI_clamp (n := k) (by omega)]
      refine J_aload_n C iX4_reckon_68 rfl rfl ?_
      refine J_cSb (As := [.int (op k), .int (f1 k), .int (f2 k), .ref (a 0)]) (st := .ref (r 0) :: []) (rc2 := (rmK 4).cells) (rs2 := (rmK 4).slots) C iX4_reckon_69 lm_X4_99 yc_X4_leaf ys_X4_leaf (c_X4_leaf hN ok (op := op k) (f := f1 k) (s := f2 k)) (wRk Z r b (nI d) ss2 ++ wBk Z b L hc lc sc nm bP bH op f1 f2 l0 l1 l2 l3 l4 l5) [] rfl rfl (rmK_le (by omega) (by decide)) (Nat.le_of_ble_eq_true rfl) rfl rfl ?_
      rintro _ _ ⟨rfl, rfl⟩
      refine J_st (.int (lfG N dg pP pH pF pT (op k) (f1 k) (f2 k)) :: .ref (r 0) :: []) rfl ?_
      refine J_ws ((wRk Z r b (nI d) ss2 ++ wBk Z b L hc lc sc nm bP bH op f1 f2 l0 l1 l2 l3 l4 l5) ++ wSt Z a (nI N) dg co li pP pH pF pT pS pD pC) rfl ?_
      refine J_cVb (As := [.int (lfG N dg pP pH pF pT (op k) (f1 k) (f2 k))]) (st := []) (rc2 := (rmK 4).cells) (rs2 := (rmK 4).slots) C iX4_reckon_72 lm_X4_103 yc_X4_push yv_X4_push (c_X4_push (d := d) (x := lfG N dg pP pH pF pT (op k) (f1 k) (f2 k)) (by omega)) (q0 := 0) rfl rfl rfl [] (wBk Z b L hc lc sc nm bP bH op f1 f2 l0 l1 l2 l3 l4 l5 ++ wSt Z a (nI N) dg co li pP pH pF pT pS pD pC) rfl rfl (rmK_le (by omega) (by decide)) (Nat.le_of_ble_eq_true rfl) rfl rfl ?_
      rintro _ _ ⟨rfl, rfl⟩
      refine J_st ([]) rfl ?_
      refine J_ws ((wRk Z r b (nI (inc d 400)) (updC ss2 d 400 (lfG N dg pP pH pF pT (op k) (f1 k) (f2 k))) ++ wBk Z b L hc lc sc nm bP bH op f1 f2 l0 l1 l2 l3 l4 l5) ++ wSt Z a (nI N) dg co li pP pH pF pT pS pD pC) rfl ?_
      have hp5 := inc_le (s := d) (by omega)
      refine J_goto 162 C iX4_reckon_75 rfl ?_
      refine J_iinc ((nI k) + 1) [(4, .int ((nI k) + 1)), (5, .int (op k)), (0, .ref (r 0)), (2, .int (nI hi)), (3, .ref (a 0))] C iX4_reckon_162 rfl rfl (by decide) rfl ?_
      rw [show (nI k) + 1 = nI (k + 1) from nI_add _ _]
      refine J_goto 12 C iX4_reckon_165 rfl ?_
      refine J_lvm [(4, .int (nI (k + 1))), (0, .ref (r 0)), (2, .int (nI hi)), (3, .ref (a 0))] rfl ?_
      have hq := skr_push ((lfG N dg pP pH pF pT) (op k) (f1 k) (f2 k)) hxs
      have hz : evS (lfG N dg pP pH pF pT) (op k) (f1 k) (f2 k) xs = psh ((lfG N dg pP pH pF pT) (op k) (f1 k) (f2 k)) xs := by rw [evS, if_neg h42]
      refine ih (_, _) ⟨_, hq, ?_⟩
      rw [← hI, show hi - k = (hi - (k + 1)) + 1 by omega, evL, hz]

