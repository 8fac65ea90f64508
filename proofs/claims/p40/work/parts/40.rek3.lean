set_option maxRecDepth 100000 in
set_option maxHeartbeats 4000000 in
theorem c_X4_carryOut {Z : GZ} {l : Launch} {r : Nat → Nat} {sk : Int32} {ss : Nat → Int32} {b L : Nat → Nat} {hc lc sc : Int32} {nm : Nat → Int64} {bP bH op f1 f2 l0 l1 l2 l3 l4 l5 : Nat → Int32} {a : Nat → Nat} {N : Nat} {dg co li : Int32} {pP pH pF pT pS pD pC : Nat → Int32} (hN : N ≤ 12) (ok : StOk N pP pH pF pT li pS pD pC) {j h c0 c1 c2 c3 : Nat} (hj : j < 16) (e1 : l1 j = nI h) (hh : h < N) (e2 : l2 j = nI c0) (e3 : l3 j = nI c1) (e4 : l4 j = nI c2) (e5 : l5 j = nI c3) (q0 : c0 ≤ 400) (q1 : c1 ≤ 400) (q2 : c2 ≤ 400) (q3 : c3 ≤ 400)  : Ct Z l yX4_carryOut cX4_carryOut 6 (some .boolean) (rmK 5) [.ref (r 0), .ref (L j), .ref (a 0)] ((wRk Z r b sk ss ++ wBk Z b L hc lc sc nm bP bH op f1 f2 l0 l1 l2 l3 l4 l5) ++ wSt Z a (nI N) dg co li pP pH pF pT pS pD pC) (fun v w => ∃ c li3 S3 D3 C3 H2 F2 T2 sk2 ssx, carF (lfG N dg pP pH pF pT) op f1 f2 pH pF pT (l0 j) h c0 c1 c2 c3 = (c, H2, F2, T2) ∧ v = some (.int (b2i c)) ∧ w = ((wRk Z r b sk2 ssx ++ wBk Z b L hc lc sc nm bP bH op f1 f2 l0 l1 l2 l3 l4 l5) ++ wSt Z a (nI N) dg co li3 pP H2 F2 T2 S3 D3 C3) ∧ StOk N pP H2 F2 T2 li3 S3 D3 C3) := by
  refine Ct.ofJ (own := RX4) (nm := "carryOut") (lv0 := [(0, .ref (r 0)), (1, .ref (L j)), (2, .ref (a 0))]) (by decide) rfl rfl (Nat.le_of_ble_eq_true rfl) rfl (fun X hXl C E => ?_)
  subst hXl
  have hlw : ((wBk Z b L hc lc sc nm bP bH op f1 f2 l0 l1 l2 l3 l4 l5))[8 + j]? = some (L j, .inr (1, [.int (l0 j), .int (nI h), .int (nI c0), .int (nI c1), .int (nI c2), .int (nI c3)])) := by
    have q := bk_at (Z := Z) (b := b) (L := L) (hc := hc) (lc := lc) (sc := sc) (nm := nm) (bP := bP) (bH := bH) (op := op) (f1 := f1) (f2 := f2) (l0 := l0) (l1 := l1) (l2 := l2) (l3 := l3) (l4 := l4) (l5 := l5) hj
    rw [e1, e2, e3, e4, e5] at q; exact q
  refine J_aload_n C iX4_carryOut_0 rfl rfl ?_
  refine J_get (.int (nI c2)) (2 + (8 + j)) C iX4_carryOut_1 gf_X4_41 (ap_at (ap_at2 hlw rk_len)) rfl ?_
  refine J_aload_n C iX4_carryOut_4 rfl rfl ?_
  refine J_get (.int (nI c3)) (2 + (8 + j)) C iX4_carryOut_5 gf_X4_46 (ap_at (ap_at2 hlw rk_len)) rfl ?_
  by_cases hs8 : c3 ≤ c2
  · refine J_icmpge 29 C iX4_carryOut_8 rfl (fun h8 => ?_) (fun h8 => absurd (nI_le (a := c3) (b := c2) (by omega) (by omega)) h8)
    refine J_aload_n C iX4_carryOut_29 rfl rfl ?_
    refine J_get (.int (l0 j)) (2 + (8 + j)) C iX4_carryOut_30 gf_X4_53 (ap_at (ap_at2 hlw rk_len)) rfl ?_
    refine J_iconst 1 C iX4_carryOut_33 rfl ?_
    refine J_icmpne 48 C iX4_carryOut_34 rfl (fun h34 => ?_) (fun h34 => ?_)
    · refine J_aload_n C iX4_carryOut_48 rfl rfl ?_
      refine J_aload_n C iX4_carryOut_49 rfl rfl ?_
      refine J_get (.int (nI c0)) (2 + (8 + j)) C iX4_carryOut_50 gf_X4_63 (ap_at (ap_at2 hlw rk_len)) rfl ?_
      refine J_aload_n C iX4_carryOut_53 rfl rfl ?_
      refine J_get (.int (nI c1)) (2 + (8 + j)) C iX4_carryOut_54 gf_X4_66 (ap_at (ap_at2 hlw rk_len)) rfl ?_
      refine J_aload_n C iX4_carryOut_57 rfl rfl ?_
      refine J_cV (As := [.int (nI c0), .int (nI c1), .ref (a 0)]) (st := []) (rc2 := (rmK 5).cells) (rs2 := (rmK 5).slots) C iX4_carryOut_58 lm_X4_49 yc_X4_reckon yv_X4_reckon (c_X4_reckon hN ok (lo := c0) (hi := c1) (by omega) (by omega)) (q0 := 0) rfl rfl rfl rfl (rmK_le (by omega) (by decide)) (Nat.le_of_ble_eq_true rfl) rfl rfl ?_
      rintro _ _ ⟨d1, ss1, hd1, rfl, rfl⟩
      refine J_st (.int (rkX (lfG N dg pP pH pF pT) op f1 f2 c0 c1) :: []) rfl ?_
      refine J_istore_n [(3, .int (rkX (lfG N dg pP pH pF pT) op f1 f2 c0 c1)), (0, .ref (r 0)), (1, .ref (L j)), (2, .ref (a 0))] C iX4_carryOut_61 rfl (by decide) rfl ?_
      refine J_aload_n C iX4_carryOut_62 rfl rfl ?_
      refine J_get (.int (l0 j)) (2 + (8 + j)) C iX4_carryOut_63 gf_X4_53 (ap_at (ap_at2 hlw rk_len)) rfl ?_
      refine J_iconst 2 C iX4_carryOut_66 rfl ?_
      refine J_icmpne 101 C iX4_carryOut_67 rfl (fun h67 => ?_) (fun h67 => ?_)
      · refine J_iload_n C iX4_carryOut_101 rfl rfl ?_
        refine J_i2l C iX4_carryOut_102 ?_
        refine J_bipush 6 C iX4_carryOut_103 rfl ?_
        refine J_bipush 18 C iX4_carryOut_105 rfl ?_
        refine J_cSNp (As := [.long ((rkX (lfG N dg pP pH pF pT) op f1 f2 c0 c1).toInt64), .int 6, .int 18]) (st := []) C iX4_carryOut_107 ln_X4_73 yc_X8_held ys_X8_held c_X8_held rfl (rmK_le (by omega) (by decide)) (Nat.le_of_ble_eq_true rfl) ⟨rfl, rfl⟩ ?_
        rintro _ rfl
        refine J_st (.int (hlF ((rkX (lfG N dg pP pH pF pT) op f1 f2 c0 c1).toInt64) 6 18) :: []) rfl ?_
        refine J_istore [(4, .int (hlF ((rkX (lfG N dg pP pH pF pT) op f1 f2 c0 c1).toInt64) 6 18)), (3, .int (rkX (lfG N dg pP pH pF pT) op f1 f2 c0 c1)), (0, .ref (r 0)), (1, .ref (L j)), (2, .ref (a 0))] C iX4_carryOut_110 (by decide) rfl ?_
        refine J_aload_n C iX4_carryOut_112 rfl rfl ?_
        refine J_aload_n C iX4_carryOut_113 rfl rfl ?_
        refine J_get (.int (nI c1)) (2 + (8 + j)) C iX4_carryOut_114 gf_X4_66 (ap_at (ap_at2 hlw rk_len)) rfl ?_
        refine J_aload_n C iX4_carryOut_117 rfl rfl ?_
        refine J_get (.int (nI c2)) (2 + (8 + j)) C iX4_carryOut_118 gf_X4_41 (ap_at (ap_at2 hlw rk_len)) rfl ?_
        refine J_aload_n C iX4_carryOut_121 rfl rfl ?_
        refine J_cV (As := [.int (nI c1), .int (nI c2), .ref (a 0)]) (st := []) (rc2 := (rmK 5).cells) (rs2 := (rmK 5).slots) C iX4_carryOut_122 lm_X4_49 yc_X4_reckon yv_X4_reckon (c_X4_reckon hN ok (lo := c1) (hi := c2) (by omega) (by omega)) (q0 := 0) rfl rfl rfl rfl (rmK_le (by omega) (by decide)) (Nat.le_of_ble_eq_true rfl) rfl rfl ?_
        rintro _ _ ⟨d2, ss2, hd2, rfl, rfl⟩
        refine J_st (.int (rkX (lfG N dg pP pH pF pT) op f1 f2 c1 c2) :: []) rfl ?_
        refine J_i2l C iX4_carryOut_125 ?_
        refine J_bipush 6 C iX4_carryOut_126 rfl ?_
        refine J_bipush 18 C iX4_carryOut_128 rfl ?_
        refine J_cSNp (As := [.long ((rkX (lfG N dg pP pH pF pT) op f1 f2 c1 c2).toInt64), .int 6, .int 18]) (st := []) C iX4_carryOut_130 ln_X4_73 yc_X8_held ys_X8_held c_X8_held rfl (rmK_le (by omega) (by decide)) (Nat.le_of_ble_eq_true rfl) ⟨rfl, rfl⟩ ?_
        rintro _ rfl
        refine J_st (.int (hlF ((rkX (lfG N dg pP pH pF pT) op f1 f2 c1 c2).toInt64) 6 18) :: []) rfl ?_
        refine J_istore [(5, .int (hlF ((rkX (lfG N dg pP pH pF pT) op f1 f2 c1 c2).toInt64) 6 18)), (4, .int (hlF ((rkX (lfG N dg pP pH pF pT) op f1 f2 c0 c1).toInt64) 6 18)), (3, .int (rkX (lfG N dg pP pH pF pT) op f1 f2 c0 c1)), (0, .ref (r 0)), (1, .ref (L j)), (2, .ref (a 0))] C iX4_carryOut_133 (by decide) rfl ?_
        refine J_iload C iX4_carryOut_135 rfl ?_
        refine J_iload C iX4_carryOut_137 rfl ?_
        refine J_icmpgt 161 C iX4_carryOut_139 rfl (fun h139 => ?_) (fun h139 => ?_)
        · refine J_iconst 0 C iX4_carryOut_161 rfl ?_
          exact J_zret C E iX4_carryOut_162 rfl ⟨false, li, pS, pD, pC, pH, pF, pT, nI d2, ss2, by rw [carF, if_neg (show ¬ (c2 < c3 ∧ rkX (lfG N dg pP pH pF pT) op f1 f2 c2 c3 = 0) from fun e9 => absurd e9.1 (by omega)), if_neg h34, if_neg h67, if_pos h139]; first | done | rfl, rfl, rfl, ok⟩
        · refine J_aload_n C iX4_carryOut_142 rfl rfl ?_
          refine J_aload_n C iX4_carryOut_143 rfl rfl ?_
          refine J_get (.int (nI h)) (2 + (8 + j)) C iX4_carryOut_144 gf_X4_56 (ap_at (ap_at2 hlw rk_len)) rfl ?_
          refine J_iload C iX4_carryOut_147 rfl ?_
          refine J_iload C iX4_carryOut_149 rfl ?_
          refine J_cVb (As := [.int (nI h), .int (hlF ((rkX (lfG N dg pP pH pF pT) op f1 f2 c0 c1).toInt64) 6 18), .int (hlF ((rkX (lfG N dg pP pH pF pT) op f1 f2 c1 c2).toInt64) 6 18)]) (st := []) (rc2 := (rmK 5).cells) (rs2 := (rmK 5).slots) C iX4_carryOut_151 lm_X4_59 yc_X5_giveCurfew yv_X5_giveCurfew (c_X5_giveCurfew hN hh ok) (q0 := 0) rfl rfl rfl (wRk Z r b (nI d2) ss2 ++ wBk Z b L hc lc sc nm bP bH op f1 f2 l0 l1 l2 l3 l4 l5) [] rfl rfl (rmK_le (by omega) (by decide)) (Nat.le_of_ble_eq_true rfl) rfl rfl ?_
          rintro _ _ ⟨li2, S2, D2, C2, rfl, rfl, ok2⟩
          refine J_st (.int (b2i (!(decide (pF h = hlF ((rkX (lfG N dg pP pH pF pT) op f1 f2 c0 c1).toInt64) 6 18) && decide (pT h = hlF ((rkX (lfG N dg pP pH pF pT) op f1 f2 c1 c2).toInt64) 6 18)))) :: []) rfl ?_
          refine J_ws ((wRk Z r b (nI d2) ss2 ++ wBk Z b L hc lc sc nm bP bH op f1 f2 l0 l1 l2 l3 l4 l5) ++ wSt Z a (nI N) dg co li2 pP pH (upd pF h (hlF ((rkX (lfG N dg pP pH pF pT) op f1 f2 c0 c1).toInt64) 6 18)) (upd pT h (hlF ((rkX (lfG N dg pP pH pF pT) op f1 f2 c1 c2).toInt64) 6 18)) S2 D2 C2) rfl ?_
          refine J_ifeqb 161 C iX4_carryOut_154 rfl (fun h154 => ?_) (fun h154 => ?_)
          · refine J_iconst 0 C iX4_carryOut_161 rfl ?_
            exact J_zret C E iX4_carryOut_162 rfl ⟨!(decide (pF h = hlF ((rkX (lfG N dg pP pH pF pT) op f1 f2 c0 c1).toInt64) 6 18) && decide (pT h = hlF ((rkX (lfG N dg pP pH pF pT) op f1 f2 c1 c2).toInt64) 6 18)), li2, S2, D2, C2, pH, upd pF h (hlF ((rkX (lfG N dg pP pH pF pT) op f1 f2 c0 c1).toInt64) 6 18), upd pT h (hlF ((rkX (lfG N dg pP pH pF pT) op f1 f2 c1 c2).toInt64) 6 18), nI d2, ss2, by rw [carF, if_neg (show ¬ (c2 < c3 ∧ rkX (lfG N dg pP pH pF pT) op f1 f2 c2 c3 = 0) from fun e9 => absurd e9.1 (by omega)), if_neg h34, if_neg h67, if_neg h139]; first | done | rfl, by rw [h154]; rfl, rfl, ok2⟩
          · refine J_iconst 1 C iX4_carryOut_157 rfl ?_
            refine J_goto 162 C iX4_carryOut_158 rfl ?_
            exact J_zret C E iX4_carryOut_162 rfl ⟨!(decide (pF h = hlF ((rkX (lfG N dg pP pH pF pT) op f1 f2 c0 c1).toInt64) 6 18) && decide (pT h = hlF ((rkX (lfG N dg pP pH pF pT) op f1 f2 c1 c2).toInt64) 6 18)), li2, S2, D2, C2, pH, upd pF h (hlF ((rkX (lfG N dg pP pH pF pT) op f1 f2 c0 c1).toInt64) 6 18), upd pT h (hlF ((rkX (lfG N dg pP pH pF pT) op f1 f2 c1 c2).toInt64) 6 18), nI d2, ss2, by rw [carF, if_neg (show ¬ (c2 < c3 ∧ rkX (lfG N dg pP pH pF pT) op f1 f2 c2 c3 = 0) from fun e9 => absurd e9.1 (by omega)), if_neg h34, if_neg h67, if_neg h139]; first | done | rfl, by rw [h154]; rfl, rfl, ok2⟩
      · refine J_aload_n C iX4_carryOut_70 rfl rfl ?_
        refine J_aload_n C iX4_carryOut_71 rfl rfl ?_
        refine J_get (.int (nI h)) (2 + (8 + j)) C iX4_carryOut_72 gf_X4_56 (ap_at (ap_at2 hlw rk_len)) rfl ?_
        refine J_cVb (As := [.int (nI h)]) (st := []) (rc2 := (rmK 5).cells) (rs2 := (rmK 5).slots) C iX4_carryOut_75 lm_X4_69 yc_X5_height yv_X5_height c_X5_height (q0 := 0) rfl rfl rfl (wRk Z r b (nI d1) ss1 ++ wBk Z b L hc lc sc nm bP bH op f1 f2 l0 l1 l2 l3 l4 l5) [] rfl rfl (rmK_le (by omega) (by decide)) (Nat.le_of_ble_eq_true rfl) rfl rfl ?_
        rintro _ _ ⟨rfl, rfl⟩
        refine J_st (.int (stAt (nI N) (nI h) pH 0) :: []) rfl ?_
        refine J_ws ((wRk Z r b (nI d1) ss1 ++ wBk Z b L hc lc sc nm bP bH op f1 f2 l0 l1 l2 l3 l4 l5) ++ wSt Z a (nI N) dg co li pP pH pF pT pS pD pC) rfl ?_
        rw [stAt_nI hh hN]
        refine J_i2l C iX4_carryOut_78 ?_
        refine J_iload_n C iX4_carryOut_79 rfl rfl ?_
        refine J_i2l C iX4_carryOut_80 ?_
        refine J_ladd C iX4_carryOut_81 ?_
        refine J_lstore [(4, .long (((pH h).toInt64) + ((rkX (lfG N dg pP pH pF pT) op f1 f2 c0 c1).toInt64))), (3, .int (rkX (lfG N dg pP pH pF pT) op f1 f2 c0 c1)), (0, .ref (r 0)), (1, .ref (L j)), (2, .ref (a 0))] C iX4_carryOut_82 (by decide) rfl ?_
        refine J_aload_n C iX4_carryOut_84 rfl rfl ?_
        refine J_aload_n C iX4_carryOut_85 rfl rfl ?_
        refine J_get (.int (nI h)) (2 + (8 + j)) C iX4_carryOut_86 gf_X4_56 (ap_at (ap_at2 hlw rk_len)) rfl ?_
        refine J_lload C iX4_carryOut_89 rfl ?_
        refine J_iconst 0 C iX4_carryOut_91 rfl ?_
        refine J_bipush 30 C iX4_carryOut_92 rfl ?_
        refine J_cSNp (As := [.long (((pH h).toInt64) + ((rkX (lfG N dg pP pH pF pT) op f1 f2 c0 c1).toInt64)), .int 0, .int 30]) (st := .int (nI h) :: .ref (a 0) :: []) C iX4_carryOut_94 ln_X4_73 yc_X8_held ys_X8_held c_X8_held rfl (rmK_le (by omega) (by decide)) (Nat.le_of_ble_eq_true rfl) ⟨rfl, rfl⟩ ?_
        rintro _ rfl
        refine J_st (.int (hlF (((pH h).toInt64) + ((rkX (lfG N dg pP pH pF pT) op f1 f2 c0 c1).toInt64)) 0 30) :: .int (nI h) :: .ref (a 0) :: []) rfl ?_
        refine J_cVb (As := [.int (nI h), .int (hlF (((pH h).toInt64) + ((rkX (lfG N dg pP pH pF pT) op f1 f2 c0 c1).toInt64)) 0 30)]) (st := []) (rc2 := (rmK 5).cells) (rs2 := (rmK 5).slots) C iX4_carryOut_97 lm_X4_77 yc_X5_giveHeight yv_X5_giveHeight (c_X5_giveHeight hN hh ok) (q0 := 0) rfl rfl rfl (wRk Z r b (nI d1) ss1 ++ wBk Z b L hc lc sc nm bP bH op f1 f2 l0 l1 l2 l3 l4 l5) [] rfl rfl (rmK_le (by omega) (by decide)) (Nat.le_of_ble_eq_true rfl) rfl rfl ?_
        rintro _ _ ⟨li2, S2, D2, C2, rfl, rfl, ok2⟩
        refine J_st (.int (b2i (!decide (pH h = hlF (((pH h).toInt64) + ((rkX (lfG N dg pP pH pF pT) op f1 f2 c0 c1).toInt64)) 0 30))) :: []) rfl ?_
        refine J_ws ((wRk Z r b (nI d1) ss1 ++ wBk Z b L hc lc sc nm bP bH op f1 f2 l0 l1 l2 l3 l4 l5) ++ wSt Z a (nI N) dg co li2 pP (upd pH h (hlF (((pH h).toInt64) + ((rkX (lfG N dg pP pH pF pT) op f1 f2 c0 c1).toInt64)) 0 30)) pF pT S2 D2 C2) rfl ?_
        exact J_zret C E iX4_carryOut_100 nb_b2i ⟨!decide (pH h = hlF (((pH h).toInt64) + ((rkX (lfG N dg pP pH pF pT) op f1 f2 c0 c1).toInt64)) 0 30), li2, S2, D2, C2, upd pH h (hlF (((pH h).toInt64) + ((rkX (lfG N dg pP pH pF pT) op f1 f2 c0 c1).toInt64)) 0 30), pF, pT, nI d1, ss1, by rw [carF, if_neg (show ¬ (c2 < c3 ∧ rkX (lfG N dg pP pH pF pT) op f1 f2 c2 c3 = 0) from fun e9 => absurd e9.1 (by omega)), if_neg h34, if_pos h67]; first | done | rfl, rfl, rfl, ok2⟩
    · refine J_aload_n C iX4_carryOut_37 rfl rfl ?_
      refine J_aload_n C iX4_carryOut_38 rfl rfl ?_
      refine J_get (.int (nI h)) (2 + (8 + j)) C iX4_carryOut_39 gf_X4_56 (ap_at (ap_at2 hlw rk_len)) rfl ?_
      refine J_iconst (-1) C iX4_carryOut_42 rfl ?_
      refine J_iconst (-1) C iX4_carryOut_43 rfl ?_
      refine J_cVb (As := [.int (nI h), .int (-1), .int (-1)]) (st := []) (rc2 := (rmK 5).cells) (rs2 := (rmK 5).slots) C iX4_carryOut_44 lm_X4_59 yc_X5_giveCurfew yv_X5_giveCurfew (c_X5_giveCurfew hN hh ok) (q0 := 0) rfl rfl rfl (wRk Z r b sk ss ++ wBk Z b L hc lc sc nm bP bH op f1 f2 l0 l1 l2 l3 l4 l5) [] rfl rfl (rmK_le (by omega) (by decide)) (Nat.le_of_ble_eq_true rfl) rfl rfl ?_
      rintro _ _ ⟨li2, S2, D2, C2, rfl, rfl, ok2⟩
      refine J_st (.int (b2i (!(decide (pF h = (-1)) && decide (pT h = (-1))))) :: []) rfl ?_
      refine J_ws ((wRk Z r b sk ss ++ wBk Z b L hc lc sc nm bP bH op f1 f2 l0 l1 l2 l3 l4 l5) ++ wSt Z a (nI N) dg co li2 pP pH (upd pF h (-1)) (upd pT h (-1)) S2 D2 C2) rfl ?_
      exact J_zret C E iX4_carryOut_47 nb_b2i ⟨!(decide (pF h = (-1)) && decide (pT h = (-1))), li2, S2, D2, C2, pH, upd pF h (-1), upd pT h (-1), sk, ss, by rw [carF, if_neg (show ¬ (c2 < c3 ∧ rkX (lfG N dg pP pH pF pT) op f1 f2 c2 c3 = 0) from fun e9 => absurd e9.1 (by omega)), if_pos h34]; first | done | rfl, rfl, rfl, ok2⟩
  · refine J_icmpge 29 C iX4_carryOut_8 rfl (fun h8 => absurd h8 (nI_ge (a := c2) (b := c3) (by omega) (by omega))) (fun h8 => ?_)
    refine J_aload_n C iX4_carryOut_11 rfl rfl ?_
    refine J_aload_n C iX4_carryOut_12 rfl rfl ?_
    refine J_get (.int (nI c2)) (2 + (8 + j)) C iX4_carryOut_13 gf_X4_41 (ap_at (ap_at2 hlw rk_len)) rfl ?_
    refine J_aload_n C iX4_carryOut_16 rfl rfl ?_
    refine J_get (.int (nI c3)) (2 + (8 + j)) C iX4_carryOut_17 gf_X4_46 (ap_at (ap_at2 hlw rk_len)) rfl ?_
    refine J_aload_n C iX4_carryOut_20 rfl rfl ?_
    refine J_cV (As := [.int (nI c2), .int (nI c3), .ref (a 0)]) (st := []) (rc2 := (rmK 5).cells) (rs2 := (rmK 5).slots) C iX4_carryOut_21 lm_X4_49 yc_X4_reckon yv_X4_reckon (c_X4_reckon hN ok (lo := c2) (hi := c3) (by omega) (by omega)) (q0 := 0) rfl rfl rfl rfl (rmK_le (by omega) (by decide)) (Nat.le_of_ble_eq_true rfl) rfl rfl ?_
    rintro _ _ ⟨d3, ss3, hd3, rfl, rfl⟩
    refine J_st (.int (rkX (lfG N dg pP pH pF pT) op f1 f2 c2 c3) :: []) rfl ?_
    refine J_ifne 29 C iX4_carryOut_24 rfl (fun h24 => ?_) (fun h24 => ?_)
    · refine J_aload_n C iX4_carryOut_29 rfl rfl ?_
      refine J_get (.int (l0 j)) (2 + (8 + j)) C iX4_carryOut_30 gf_X4_53 (ap_at (ap_at2 hlw rk_len)) rfl ?_
      refine J_iconst 1 C iX4_carryOut_33 rfl ?_
      refine J_icmpne 48 C iX4_carryOut_34 rfl (fun h34 => ?_) (fun h34 => ?_)
      · refine J_aload_n C iX4_carryOut_48 rfl rfl ?_
        refine J_aload_n C iX4_carryOut_49 rfl rfl ?_
        refine J_get (.int (nI c0)) (2 + (8 + j)) C iX4_carryOut_50 gf_X4_63 (ap_at (ap_at2 hlw rk_len)) rfl ?_
        refine J_aload_n C iX4_carryOut_53 rfl rfl ?_
        refine J_get (.int (nI c1)) (2 + (8 + j)) C iX4_carryOut_54 gf_X4_66 (ap_at (ap_at2 hlw rk_len)) rfl ?_
        refine J_aload_n C iX4_carryOut_57 rfl rfl ?_
        refine J_cV (As := [.int (nI c0), .int (nI c1), .ref (a 0)]) (st := []) (rc2 := (rmK 5).cells) (rs2 := (rmK 5).slots) C iX4_carryOut_58 lm_X4_49 yc_X4_reckon yv_X4_reckon (c_X4_reckon hN ok (lo := c0) (hi := c1) (by omega) (by omega)) (q0 := 0) rfl rfl rfl rfl (rmK_le (by omega) (by decide)) (Nat.le_of_ble_eq_true rfl) rfl rfl ?_
        rintro _ _ ⟨d4, ss4, hd4, rfl, rfl⟩
        refine J_st (.int (rkX (lfG N dg pP pH pF pT) op f1 f2 c0 c1) :: []) rfl ?_
        refine J_istore_n [(3, .int (rkX (lfG N dg pP pH pF pT) op f1 f2 c0 c1)), (0, .ref (r 0)), (1, .ref (L j)), (2, .ref (a 0))] C iX4_carryOut_61 rfl (by decide) rfl ?_
        refine J_aload_n C iX4_carryOut_62 rfl rfl ?_
        refine J_get (.int (l0 j)) (2 + (8 + j)) C iX4_carryOut_63 gf_X4_53 (ap_at (ap_at2 hlw rk_len)) rfl ?_
        refine J_iconst 2 C iX4_carryOut_66 rfl ?_
        refine J_icmpne 101 C iX4_carryOut_67 rfl (fun h67 => ?_) (fun h67 => ?_)
        · refine J_iload_n C iX4_carryOut_101 rfl rfl ?_
          refine J_i2l C iX4_carryOut_102 ?_
          refine J_bipush 6 C iX4_carryOut_103 rfl ?_
          refine J_bipush 18 C iX4_carryOut_105 rfl ?_
          refine J_cSNp (As := [.long ((rkX (lfG N dg pP pH pF pT) op f1 f2 c0 c1).toInt64), .int 6, .int 18]) (st := []) C iX4_carryOut_107 ln_X4_73 yc_X8_held ys_X8_held c_X8_held rfl (rmK_le (by omega) (by decide)) (Nat.le_of_ble_eq_true rfl) ⟨rfl, rfl⟩ ?_
          rintro _ rfl
          refine J_st (.int (hlF ((rkX (lfG N dg pP pH pF pT) op f1 f2 c0 c1).toInt64) 6 18) :: []) rfl ?_
          refine J_istore [(4, .int (hlF ((rkX (lfG N dg pP pH pF pT) op f1 f2 c0 c1).toInt64) 6 18)), (3, .int (rkX (lfG N dg pP pH pF pT) op f1 f2 c0 c1)), (0, .ref (r 0)), (1, .ref (L j)), (2, .ref (a 0))] C iX4_carryOut_110 (by decide) rfl ?_
          refine J_aload_n C iX4_carryOut_112 rfl rfl ?_
          refine J_aload_n C iX4_carryOut_113 rfl rfl ?_
          refine J_get (.int (nI c1)) (2 + (8 + j)) C iX4_carryOut_114 gf_X4_66 (ap_at (ap_at2 hlw rk_len)) rfl ?_
          refine J_aload_n C iX4_carryOut_117 rfl rfl ?_
          refine J_get (.int (nI c2)) (2 + (8 + j)) C iX4_carryOut_118 gf_X4_41 (ap_at (ap_at2 hlw rk_len)) rfl ?_
          refine J_aload_n C iX4_carryOut_121 rfl rfl ?_
          refine J_cV (As := [.int (nI c1), .int (nI c2), .ref (a 0)]) (st := []) (rc2 := (rmK 5).cells) (rs2 := (rmK 5).slots) C iX4_carryOut_122 lm_X4_49 yc_X4_reckon yv_X4_reckon (c_X4_reckon hN ok (lo := c1) (hi := c2) (by omega) (by omega)) (q0 := 0) rfl rfl rfl rfl (rmK_le (by omega) (by decide)) (Nat.le_of_ble_eq_true rfl) rfl rfl ?_
          rintro _ _ ⟨d5, ss5, hd5, rfl, rfl⟩
          refine J_st (.int (rkX (lfG N dg pP pH pF pT) op f1 f2 c1 c2) :: []) rfl ?_
          refine J_i2l C iX4_carryOut_125 ?_
          refine J_bipush 6 C iX4_carryOut_126 rfl ?_
          refine J_bipush 18 C iX4_carryOut_128 rfl ?_
          refine J_cSNp (As := [.long ((rkX (lfG N dg pP pH pF pT) op f1 f2 c1 c2).toInt64), .int 6, .int 18]) (st := []) C iX4_carryOut_130 ln_X4_73 yc_X8_held ys_X8_held c_X8_held rfl (rmK_le (by omega) (by decide)) (Nat.le_of_ble_eq_true rfl) ⟨rfl, rfl⟩ ?_
          rintro _ rfl
          refine J_st (.int (hlF ((rkX (lfG N dg pP pH pF pT) op f1 f2 c1 c2).toInt64) 6 18) :: []) rfl ?_
          refine J_istore [(5, .int (hlF ((rkX (lfG N dg pP pH pF pT) op f1 f2 c1 c2).toInt64) 6 18)), (4, .int (hlF ((rkX (lfG N dg pP pH pF pT) op f1 f2 c0 c1).toInt64) 6 18)), (3, .int (rkX (lfG N dg pP pH pF pT) op f1 f2 c0 c1)), (0, .ref (r 0)), (1, .ref (L j)), (2, .ref (a 0))] C iX4_carryOut_133 (by decide) rfl ?_
          refine J_iload C iX4_carryOut_135 rfl ?_
          refine J_iload C iX4_carryOut_137 rfl ?_
          refine J_icmpgt 161 C iX4_carryOut_139 rfl (fun h139 => ?_) (fun h139 => ?_)
          · refine J_iconst 0 C iX4_carryOut_161 rfl ?_
            exact J_zret C E iX4_carryOut_162 rfl ⟨false, li, pS, pD, pC, pH, pF, pT, nI d5, ss5, by rw [carF, if_neg (show ¬ (c2 < c3 ∧ rkX (lfG N dg pP pH pF pT) op f1 f2 c2 c3 = 0) from fun e9 => h24 e9.2), if_neg h34, if_neg h67, if_pos h139]; first | done | rfl, rfl, rfl, ok⟩
          · refine J_aload_n C iX4_carryOut_142 rfl rfl ?_
            refine J_aload_n C iX4_carryOut_143 rfl rfl ?_
            refine J_get (.int (nI h)) (2 + (8 + j)) C iX4_carryOut_144 gf_X4_56 (ap_at (ap_at2 hlw rk_len)) rfl ?_
            refine J_iload C iX4_carryOut_147 rfl ?_
            refine J_iload C iX4_carryOut_149 rfl ?_
            refine J_cVb (As := [.int (nI h), .int (hlF ((rkX (lfG N dg pP pH pF pT) op f1 f2 c0 c1).toInt64) 6 18), .int (hlF ((rkX (lfG N dg pP pH pF pT) op f1 f2 c1 c2).toInt64) 6 18)]) (st := []) (rc2 := (rmK 5).cells) (rs2 := (rmK 5).slots) C iX4_carryOut_151 lm_X4_59 yc_X5_giveCurfew yv_X5_giveCurfew (c_X5_giveCurfew hN hh ok) (q0 := 0) rfl rfl rfl (wRk Z r b (nI d5) ss5 ++ wBk Z b L hc lc sc nm bP bH op f1 f2 l0 l1 l2 l3 l4 l5) [] rfl rfl (rmK_le (by omega) (by decide)) (Nat.le_of_ble_eq_true rfl) rfl rfl ?_
            rintro _ _ ⟨li2, S2, D2, C2, rfl, rfl, ok2⟩
            refine J_st (.int (b2i (!(decide (pF h = hlF ((rkX (lfG N dg pP pH pF pT) op f1 f2 c0 c1).toInt64) 6 18) && decide (pT h = hlF ((rkX (lfG N dg pP pH pF pT) op f1 f2 c1 c2).toInt64) 6 18)))) :: []) rfl ?_
            refine J_ws ((wRk Z r b (nI d5) ss5 ++ wBk Z b L hc lc sc nm bP bH op f1 f2 l0 l1 l2 l3 l4 l5) ++ wSt Z a (nI N) dg co li2 pP pH (upd pF h (hlF ((rkX (lfG N dg pP pH pF pT) op f1 f2 c0 c1).toInt64) 6 18)) (upd pT h (hlF ((rkX (lfG N dg pP pH pF pT) op f1 f2 c1 c2).toInt64) 6 18)) S2 D2 C2) rfl ?_
            refine J_ifeqb 161 C iX4_carryOut_154 rfl (fun h154 => ?_) (fun h154 => ?_)
            · refine J_iconst 0 C iX4_carryOut_161 rfl ?_
              exact J_zret C E iX4_carryOut_162 rfl ⟨!(decide (pF h = hlF ((rkX (lfG N dg pP pH pF pT) op f1 f2 c0 c1).toInt64) 6 18) && decide (pT h = hlF ((rkX (lfG N dg pP pH pF pT) op f1 f2 c1 c2).toInt64) 6 18)), li2, S2, D2, C2, pH, upd pF h (hlF ((rkX (lfG N dg pP pH pF pT) op f1 f2 c0 c1).toInt64) 6 18), upd pT h (hlF ((rkX (lfG N dg pP pH pF pT) op f1 f2 c1 c2).toInt64) 6 18), nI d5, ss5, by rw [carF, if_neg (show ¬ (c2 < c3 ∧ rkX (lfG N dg pP pH pF pT) op f1 f2 c2 c3 = 0) from fun e9 => h24 e9.2), if_neg h34, if_neg h67, if_neg h139]; first | done | rfl, by rw [h154]; rfl, rfl, ok2⟩
            · refine J_iconst 1 C iX4_carryOut_157 rfl ?_
              refine J_goto 162 C iX4_carryOut_158 rfl ?_
              exact J_zret C E iX4_carryOut_162 rfl ⟨!(decide (pF h = hlF ((rkX (lfG N dg pP pH pF pT) op f1 f2 c0 c1).toInt64) 6 18) && decide (pT h = hlF ((rkX (lfG N dg pP pH pF pT) op f1 f2 c1 c2).toInt64) 6 18)), li2, S2, D2, C2, pH, upd pF h (hlF ((rkX (lfG N dg pP pH pF pT) op f1 f2 c0 c1).toInt64) 6 18), upd pT h (hlF ((rkX (lfG N dg pP pH pF pT) op f1 f2 c1 c2).toInt64) 6 18), nI d5, ss5, by rw [carF, if_neg (show ¬ (c2 < c3 ∧ rkX (lfG N dg pP pH pF pT) op f1 f2 c2 c3 = 0) from fun e9 => h24 e9.2), if_neg h34, if_neg h67, if_neg h139]; first | done | rfl, by rw [h154]; rfl, rfl, ok2⟩
        · refine J_aload_n C iX4_carryOut_70 rfl rfl ?_
          refine J_aload_n C iX4_carryOut_71 rfl rfl ?_
          refine J_get (.int (nI h)) (2 + (8 + j)) C iX4_carryOut_72 gf_X4_56 (ap_at (ap_at2 hlw rk_len)) rfl ?_
          refine J_cVb (As := [.int (nI h)]) (st := []) (rc2 := (rmK 5).cells) (rs2 := (rmK 5).slots) C iX4_carryOut_75 lm_X4_69 yc_X5_height yv_X5_height c_X5_height (q0 := 0) rfl rfl rfl (wRk Z r b (nI d4) ss4 ++ wBk Z b L hc lc sc nm bP bH op f1 f2 l0 l1 l2 l3 l4 l5) [] rfl rfl (rmK_le (by omega) (by decide)) (Nat.le_of_ble_eq_true rfl) rfl rfl ?_
          rintro _ _ ⟨rfl, rfl⟩
          refine J_st (.int (stAt (nI N) (nI h) pH 0) :: []) rfl ?_
          refine J_ws ((wRk Z r b (nI d4) ss4 ++ wBk Z b L hc lc sc nm bP bH op f1 f2 l0 l1 l2 l3 l4 l5) ++ wSt Z a (nI N) dg co li pP pH pF pT pS pD pC) rfl ?_
          rw [stAt_nI hh hN]
          refine J_i2l C iX4_carryOut_78 ?_
          refine J_iload_n C iX4_carryOut_79 rfl rfl ?_
          refine J_i2l C iX4_carryOut_80 ?_
          refine J_ladd C iX4_carryOut_81 ?_
          refine J_lstore [(4, .long (((pH h).toInt64) + ((rkX (lfG N dg pP pH pF pT) op f1 f2 c0 c1).toInt64))), (3, .int (rkX (lfG N dg pP pH pF pT) op f1 f2 c0 c1)), (0, .ref (r 0)), (1, .ref (L j)), (2, .ref (a 0))] C iX4_carryOut_82 (by decide) rfl ?_
          refine J_aload_n C iX4_carryOut_84 rfl rfl ?_
          refine J_aload_n C iX4_carryOut_85 rfl rfl ?_
          refine J_get (.int (nI h)) (2 + (8 + j)) C iX4_carryOut_86 gf_X4_56 (ap_at (ap_at2 hlw rk_len)) rfl ?_
          refine J_lload C iX4_carryOut_89 rfl ?_
          refine J_iconst 0 C iX4_carryOut_91 rfl ?_
          refine J_bipush 30 C iX4_carryOut_92 rfl ?_
          refine J_cSNp (As := [.long (((pH h).toInt64) + ((rkX (lfG N dg pP pH pF pT) op f1 f2 c0 c1).toInt64)), .int 0, .int 30]) (st := .int (nI h) :: .ref (a 0) :: []) C iX4_carryOut_94 ln_X4_73 yc_X8_held ys_X8_held c_X8_held rfl (rmK_le (by omega) (by decide)) (Nat.le_of_ble_eq_true rfl) ⟨rfl, rfl⟩ ?_
          rintro _ rfl
          refine J_st (.int (hlF (((pH h).toInt64) + ((rkX (lfG N dg pP pH pF pT) op f1 f2 c0 c1).toInt64)) 0 30) :: .int (nI h) :: .ref (a 0) :: []) rfl ?_
          refine J_cVb (As := [.int (nI h), .int (hlF (((pH h).toInt64) + ((rkX (lfG N dg pP pH pF pT) op f1 f2 c0 c1).toInt64)) 0 30)]) (st := []) (rc2 := (rmK 5).cells) (rs2 := (rmK 5).slots) C iX4_carryOut_97 lm_X4_77 yc_X5_giveHeight yv_X5_giveHeight (c_X5_giveHeight hN hh ok) (q0 := 0) rfl rfl rfl (wRk Z r b (nI d4) ss4 ++ wBk Z b L hc lc sc nm bP bH op f1 f2 l0 l1 l2 l3 l4 l5) [] rfl rfl (rmK_le (by omega) (by decide)) (Nat.le_of_ble_eq_true rfl) rfl rfl ?_
          rintro _ _ ⟨li2, S2, D2, C2, rfl, rfl, ok2⟩
          refine J_st (.int (b2i (!decide (pH h = hlF (((pH h).toInt64) + ((rkX (lfG N dg pP pH pF pT) op f1 f2 c0 c1).toInt64)) 0 30))) :: []) rfl ?_
          refine J_ws ((wRk Z r b (nI d4) ss4 ++ wBk Z b L hc lc sc nm bP bH op f1 f2 l0 l1 l2 l3 l4 l5) ++ wSt Z a (nI N) dg co li2 pP (upd pH h (hlF (((pH h).toInt64) + ((rkX (lfG N dg pP pH pF pT) op f1 f2 c0 c1).toInt64)) 0 30)) pF pT S2 D2 C2) rfl ?_
          exact J_zret C E iX4_carryOut_100 nb_b2i ⟨!decide (pH h = hlF (((pH h).toInt64) + ((rkX (lfG N dg pP pH pF pT) op f1 f2 c0 c1).toInt64)) 0 30), li2, S2, D2, C2, upd pH h (hlF (((pH h).toInt64) + ((rkX (lfG N dg pP pH pF pT) op f1 f2 c0 c1).toInt64)) 0 30), pF, pT, nI d4, ss4, by rw [carF, if_neg (show ¬ (c2 < c3 ∧ rkX (lfG N dg pP pH pF pT) op f1 f2 c2 c3 = 0) from fun e9 => h24 e9.2), if_neg h34, if_pos h67]; first | done | rfl, rfl, rfl, ok2⟩
      · refine J_aload_n C iX4_carryOut_37 rfl rfl ?_
        refine J_aload_n C iX4_carryOut_38 rfl rfl ?_
        refine J_get (.int (nI h)) (2 + (8 + j)) C iX4_carryOut_39 gf_X4_56 (ap_at (ap_at2 hlw rk_len)) rfl ?_
        refine J_iconst (-1) C iX4_carryOut_42 rfl ?_
        refine J_iconst (-1) C iX4_carryOut_43 rfl ?_
        refine J_cVb (As := [.int (nI h), .int (-1), .int (-1)]) (st := []) (rc2 := (rmK 5).cells) (rs2 := (rmK 5).slots) C iX4_carryOut_44 lm_X4_59 yc_X5_giveCurfew yv_X5_giveCurfew (c_X5_giveCurfew hN hh ok) (q0 := 0) rfl rfl rfl (wRk Z r b (nI d3) ss3 ++ wBk Z b L hc lc sc nm bP bH op f1 f2 l0 l1 l2 l3 l4 l5) [] rfl rfl (rmK_le (by omega) (by decide)) (Nat.le_of_ble_eq_true rfl) rfl rfl ?_
        rintro _ _ ⟨li2, S2, D2, C2, rfl, rfl, ok2⟩
        refine J_st (.int (b2i (!(decide (pF h = (-1)) && decide (pT h = (-1))))) :: []) rfl ?_
        refine J_ws ((wRk Z r b (nI d3) ss3 ++ wBk Z b L hc lc sc nm bP bH op f1 f2 l0 l1 l2 l3 l4 l5) ++ wSt Z a (nI N) dg co li2 pP pH (upd pF h (-1)) (upd pT h (-1)) S2 D2 C2) rfl ?_
        exact J_zret C E iX4_carryOut_47 nb_b2i ⟨!(decide (pF h = (-1)) && decide (pT h = (-1))), li2, S2, D2, C2, pH, upd pF h (-1), upd pT h (-1), nI d3, ss3, by rw [carF, if_neg (show ¬ (c2 < c3 ∧ rkX (lfG N dg pP pH pF pT) op f1 f2 c2 c3 = 0) from fun e9 => h24 e9.2), if_pos h34]; first | done | rfl, rfl, rfl, ok2⟩
    · refine J_iconst 0 C iX4_carryOut_27 rfl ?_
      exact J_zret C E iX4_carryOut_28 rfl ⟨false, li, pS, pD, pC, pH, pF, pT, nI d3, ss3, by rw [carF, if_pos (show c2 < c3 ∧ rkX (lfG N dg pP pH pF pT) op f1 f2 c2 c3 = 0 from ⟨by omega, h24⟩)]; first | done | rfl, rfl, rfl, ok⟩

set_option maxRecDepth 100000 in
set_option maxHeartbeats 4000000 in
theorem c_X4_passDay {Z : GZ} {l : Launch} {r : Nat → Nat} {sk : Int32} {ss : Nat → Int32} {b L : Nat → Nat} {hc sc : Int32} {nm : Nat → Int64} {bP bH op f1 f2 l0 l1 l2 l3 l4 l5 : Nat → Int32} {a : Nat → Nat} {N : Nat} {dg co li : Int32} {pP pH pF pT pS pD pC : Nat → Int32} (hN : N ≤ 12) (ok : StOk N pP pH pF pT li pS pD pC) {u : Nat} {hh c0 c1 c2 c3 : Nat → Nat} (hu : u ≤ 16) (hlw : ∀ j, j < u → l1 j = nI (hh j) ∧ hh j < N ∧ l2 j = nI (c0 j) ∧ l3 j = nI (c1 j) ∧ l4 j = nI (c2 j) ∧ l5 j = nI (c3 j) ∧ c0 j ≤ 400 ∧ c1 j ≤ 400 ∧ c2 j ≤ 400 ∧ c3 j ≤ 400)  : Ct Z l yX4_passDay cX4_passDay 4 none (rmK 6) [.ref (r 0), .ref (a 0)] ((wRk Z r b sk ss ++ wBk Z b L hc (nI u) sc nm bP bH op f1 f2 l0 l1 l2 l3 l4 l5) ++ wSt Z a (nI N) dg co li pP pH pF pT pS pD pC) (fun v w => ∃ sk2 ssx co2 li2 H2 F2 T2 S2 D2 C2, dayL N dg pP op f1 f2 l0 hh c0 c1 c2 c3 0 u ((pH, pF, pT), co) = ((H2, F2, T2), co2) ∧ v = none ∧ w = ((wRk Z r b sk2 ssx ++ wBk Z b L hc (nI u) sc nm bP bH op f1 f2 l0 l1 l2 l3 l4 l5) ++ wSt Z a (nI N) (dg + 1) co2 li2 pP H2 F2 T2 S2 D2 C2) ∧ StOk N pP H2 F2 T2 li2 S2 D2 C2) := by
  refine Ct.ofJ (own := RX4) (nm := "passDay") (lv0 := [(0, .ref (r 0)), (1, .ref (a 0))]) (by decide) rfl rfl (Nat.le_of_ble_eq_true rfl) rfl (fun X hXl C E => ?_)
  subst hXl
  refine J_iconst 0 C iX4_passDay_0 rfl ?_
  refine J_istore_n [(2, .int 0), (0, .ref (r 0)), (1, .ref (a 0))] C iX4_passDay_1 rfl (by decide) rfl ?_
  refine J_lvm [(2, .int (nI 0)), (0, .ref (r 0)), (1, .ref (a 0))] rfl ?_
  refine J_forI (σ := Int32 × (Nat → Int32) × Int32 × Int32 × (Nat → Int32) × (Nat → Int32) × (Nat → Int32) × (Nat → Int32) × (Nat → Int32) × (Nat → Int32)) (fun k q => [(2, .int (nI k)), (0, .ref (r 0)), (1, .ref (a 0))]) (fun k q => ((wRk Z r b q.1 q.2.1 ++ wBk Z b L hc (nI u) sc nm bP bH op f1 f2 l0 l1 l2 l3 l4 l5) ++ wSt Z a (nI N) dg q.2.2.1 q.2.2.2.1 pP q.2.2.2.2.1 q.2.2.2.2.2.1 q.2.2.2.2.2.2.1 q.2.2.2.2.2.2.2.1 q.2.2.2.2.2.2.2.2.1 q.2.2.2.2.2.2.2.2.2)) (fun k q => StOk N pP q.2.2.2.2.1 q.2.2.2.2.2.1 q.2.2.2.2.2.2.1 q.2.2.2.1 q.2.2.2.2.2.2.2.1 q.2.2.2.2.2.2.2.2.1 q.2.2.2.2.2.2.2.2.2 ∧ dayL N dg pP op f1 f2 l0 hh c0 c1 c2 c3 k (u - k) ((q.2.2.2.2.1, q.2.2.2.2.2.1, q.2.2.2.2.2.2.1), q.2.2.1) = dayL N dg pP op f1 f2 l0 hh c0 c1 c2 c3 0 u ((pH, pF, pT), co)) u 0 (sk, ss, co, li, pH, pF, pT, pS, pD, pC) (by omega) ⟨ok, rfl⟩ ?_ ?_
  · rintro ⟨sk5, ss5, co5, li5, H5, F5, T5, S5, D5, C5⟩ ⟨ok5, hI⟩
    dsimp only at ok5 hI ⊢
    refine J_iload_n C iX4_passDay_2 rfl rfl ?_
    refine J_aload_n C iX4_passDay_3 rfl rfl ?_
    refine J_get (.ref (b 0)) 0 C iX4_passDay_4 gf_X4_15 rfl rfl ?_
    refine J_get (.int (nI u)) 2 C iX4_passDay_7 gf_X4_19 rfl rfl ?_
    refine J_icmpge 51 C iX4_passDay_10 rfl (fun h10 => ?_) (fun h10 => absurd (nI_le (a := u) (b := u) (by omega) (by omega)) h10)
    refine J_aload_n C iX4_passDay_51 rfl rfl ?_
    refine J_dup C iX4_passDay_52 rfl ?_
    refine J_get (.int dg) 26 C iX4_passDay_53 gf_X4_38 rfl rfl ?_
    refine J_iconst 1 C iX4_passDay_56 rfl ?_
    refine J_iadd C iX4_passDay_57 ?_
    refine J_put ((wRk Z r b sk5 ss5 ++ wBk Z b L hc (nI u) sc nm bP bH op f1 f2 l0 l1 l2 l3 l4 l5) ++ wSt Z a (nI N) (dg + 1) co5 li5 pP H5 F5 T5 S5 D5 C5) 26 C iX4_passDay_58 pf_X4_38 rfl rfl rfl (Nat.le_of_ble_eq_true rfl) rfl ?_
    exact J_vret C E iX4_passDay_61 ⟨sk5, ss5, co5, li5, H5, F5, T5, S5, D5, C5, by rw [← hI, Nat.sub_self]; rfl, rfl, rfl, ok5⟩
  · rintro k ⟨sk5, ss5, co5, li5, H5, F5, T5, S5, D5, C5⟩ hk0 hk ⟨ok5, hI⟩ ih
    dsimp only at ok5 hI ⊢
    obtain ⟨z1, z2, z3, z4, z5, z6, z7, z8, z9, z10⟩ := hlw k hk
    refine J_iload_n C iX4_passDay_2 rfl rfl ?_
    refine J_aload_n C iX4_passDay_3 rfl rfl ?_
    refine J_get (.ref (b 0)) 0 C iX4_passDay_4 gf_X4_15 rfl rfl ?_
    refine J_get (.int (nI u)) 2 C iX4_passDay_7 gf_X4_19 rfl rfl ?_
    refine J_icmpge 51 C iX4_passDay_10 rfl (fun h10 => absurd h10 (nI_ge (a := k) (b := u) (by omega) (by omega))) (fun h10 => ?_)
    refine J_aload_n C iX4_passDay_13 rfl rfl ?_
    refine J_get (.ref (b 0)) 0 C iX4_passDay_14 gf_X4_15 rfl rfl ?_
    refine J_iload_n C iX4_passDay_17 rfl rfl ?_
    refine J_cVb (As := [.int (nI k)]) (st := []) (rc2 := (rmK 6).cells) (rs2 := (rmK 6).slots) C iX4_passDay_18 lm_X4_25 yc_X0_lawAt yv_X0_lawAt (c_X0_lawAt (m := u) (i := k) hu hk) (q0 := 0) rfl rfl rfl (wRk Z r b sk5 ss5) (wSt Z a (nI N) dg co5 li5 pP H5 F5 T5 S5 D5 C5) rfl rfl (rmK_le (by omega) (by decide)) (Nat.le_of_ble_eq_true rfl) rfl rfl ?_
    rintro _ _ ⟨rfl, rfl⟩
    refine J_st (.ref (L k) :: []) rfl ?_
    refine J_ws ((wRk Z r b sk5 ss5 ++ wBk Z b L hc (nI u) sc nm bP bH op f1 f2 l0 l1 l2 l3 l4 l5) ++ wSt Z a (nI N) dg co5 li5 pP H5 F5 T5 S5 D5 C5) rfl ?_
    refine J_astore_n [(3, .ref (L k)), (2, .int (nI k)), (0, .ref (r 0)), (1, .ref (a 0))] C iX4_passDay_21 rfl (by decide) rfl ?_
    refine J_aload_n C iX4_passDay_22 rfl rfl ?_
    refine J_ifnull C iX4_passDay_23 ?_
    refine J_aload_n C iX4_passDay_26 rfl rfl ?_
    refine J_aload_n C iX4_passDay_27 rfl rfl ?_
    refine J_aload_n C iX4_passDay_28 rfl rfl ?_
    refine J_cV (As := [.ref (L k), .ref (a 0)]) (st := []) (rc2 := (rmK 6).cells) (rs2 := (rmK 6).slots) C iX4_passDay_29 lm_X4_29 yc_X4_carryOut yv_X4_carryOut (c_X4_carryOut hN ok5 (j := k) (by omega) z1 z2 z3 z4 z5 z6 z7 z8 z9 z10) (q0 := 0) rfl rfl rfl rfl (rmK_le (by omega) (by decide)) (Nat.le_of_ble_eq_true rfl) rfl rfl ?_
    rintro _ _ ⟨c6, li6, S6, D6, C6, H6, F6, T6, sk6, ss6, hc6, rfl, rfl, ok6⟩
    refine J_st (.int (b2i c6) :: []) rfl ?_
    refine J_ifeqb 45 C iX4_passDay_32 rfl (fun h32 => ?_) (fun h32 => ?_)
    · refine J_iinc ((nI k) + 1) [(2, .int ((nI k) + 1)), (3, .ref (L k)), (0, .ref (r 0)), (1, .ref (a 0))] C iX4_passDay_45 rfl rfl (by decide) rfl ?_
      rw [show (nI k) + 1 = nI (k + 1) from nI_add _ _]
      refine J_goto 2 C iX4_passDay_48 rfl ?_
      refine J_lvm [(2, .int (nI (k + 1))), (0, .ref (r 0)), (1, .ref (a 0))] rfl ?_
      exact ih (sk6, ss6, co5, li6, H6, F6, T6, S6, D6, C6) ⟨ok6, by rw [← hI, show u - k = (u - (k + 1)) + 1 by omega, dayL, carS]; dsimp only; rw [hc6, if_neg (by rw [h32]; exact Bool.false_ne_true)]⟩
    · refine J_aload_n C iX4_passDay_35 rfl rfl ?_
      refine J_dup C iX4_passDay_36 rfl ?_
      refine J_get (.int co5) 26 C iX4_passDay_37 gf_X4_33 rfl rfl ?_
      refine J_iconst 1 C iX4_passDay_40 rfl ?_
      refine J_iadd C iX4_passDay_41 ?_
      refine J_put ((wRk Z r b sk6 ss6 ++ wBk Z b L hc (nI u) sc nm bP bH op f1 f2 l0 l1 l2 l3 l4 l5) ++ wSt Z a (nI N) dg (co5 + 1) li6 pP H6 F6 T6 S6 D6 C6) 26 C iX4_passDay_42 pf_X4_33 rfl rfl rfl (Nat.le_of_ble_eq_true rfl) rfl ?_
      refine J_iinc ((nI k) + 1) [(2, .int ((nI k) + 1)), (3, .ref (L k)), (0, .ref (r 0)), (1, .ref (a 0))] C iX4_passDay_45 rfl rfl (by decide) rfl ?_
      rw [show (nI k) + 1 = nI (k + 1) from nI_add _ _]
      refine J_goto 2 C iX4_passDay_48 rfl ?_
      refine J_lvm [(2, .int (nI (k + 1))), (0, .ref (r 0)), (1, .ref (a 0))] rfl ?_
      exact ih (sk6, ss6, co5 + 1, li6, H6, F6, T6, S6, D6, C6) ⟨ok6, by rw [← hI, show u - k = (u - (k + 1)) + 1 by omega, dayL, carS]; dsimp only; rw [hc6, if_pos (by rw [h32])]⟩

