set_option maxRecDepth 100000 in
set_option maxHeartbeats 4000000 in
theorem c_X10_isLine {Z : GZ} {l : Launch} {mo pl pn : Nat → Nat} {th sz ea dy ca hs ls : Int32} {kn : Bool} {hn va : Nat → Int64} {ha hh dz wh bg en tp kd fr wo pc ht fs la kh kf kl sh dk sk : Nat → Int32} {Lt m : Nat} {tq : Nat → Nat} {sq : Nat → Int32} {vq nm : Nat → Int64} {i s : Nat} {me od wi al : Nat → Int32} {e a : Int32} {o g j : Nat → Int32} {bP : Nat → Int32} {u uc y : Nat} (hu : u ≤ 400) (huc : uc = min u 16) (hy : y = min u 15) (hLt : Lt ≤ 400) (hkd : ∀ i, i ≤ Lt → kd i = km (tq i)) (htq : ∀ i, tq i < 43) (hend : ∀ i, i ≤ Lt → tq i ≠ 41 → tq i ≠ 42 → i < Lt) (hva : ∀ i, i ≤ Lt → tq i = 39 ∨ tq i = 40 → va i = vq i) (hi : i ≤ Lt) (hs_ : s ≤ i) (hme : ∀ k, i ≤ k → k ≤ Lt → me k = 0)  : Ct Z l yX10_isLine cX10_isLine 2 (some .boolean) (rmK 45) [.ref (mo 0), .ref (pn 0)] (wMd Z mo pl th sz ea (nI i) (nI 0) (nI u) dy ca kn tp kd fr me va wo pc ht fs la kh kf kl sh dk sk ++ wPl Z pn hs ls (nI s) hn ha hh dz wh bg en od wi al) (fun v w => (v = some (.int (b2i true)) ∧ w = (wMd Z mo pl th sz ea (nI (i + 1 + 1 + 1 + 1 + 1 + 1)) (nI 0) (nI u) dy ca kn tp kd fr (meH me i) va wo pc ht fs la kh kf kl sh dk sk ++ wPl Z pn hs ls (nI s) hn ha hh dz wh bg en od wi al) ∧ tq i = 0 ∧ tq (i + 1) = 39 ∧ tq (i + 1 + 1) = 1 ∧ tq (i + 1 + 1 + 1) = 40 ∧ tq (i + 1 + 1 + 1 + 1) = 2 ∧ tq (i + 1 + 1 + 1 + 1 + 1) = 40 ∧ i + 1 + 1 + 1 + 1 + 1 < Lt) ∨ (∃ i2 s2 me2 od2 wi2 al2 e2 a2 o2 g2 j2 dz2 bg2 en2 z0 z1 z2 z3 z4 z5, v = some (.int (b2i true)) ∧ w = (wMd Z mo pl th sz ea (nI i2) (nI 0) (nI (u + 1)) dy ca kn tp kd fr me2 va wo pc ht fs la kh kf kl sh dk sk ++ wPl Z pn hs ls (nI s2) hn ha hh dz2 wh bg2 en2 od2 wi2 al2) ∧ tq i = 3 ∧ lawC tq sq vq nm m uc (i, false, e, a, s, o, g, j) = ((i2, false, e2, a2, s2, o2, g2, j2), z0, z1, z2, z3, z4, z5) ∧ LawG Lt tq sq vq nm m uc y i s me od wi al dz bg en e a o g j i2 s2 me2 od2 wi2 al2 dz2 bg2 en2 e2 a2 o2 g2 j2 z0 z1 z2 z3 z4 z5) ∨ (∃ i2 dp2 mn2 me2 od2 wi2 al2 lr2 dz2 bg2 en2, v = some (.int (b2i false)) ∧ w = (wMd Z mo pl th sz ea (nI i2) dp2 lr2 dy ca kn tp kd fr me2 va wo pc ht fs la kh kf kl sh dk sk ++ wPl Z pn hs ls mn2 hn ha hh dz2 wh bg2 en2 od2 wi2 al2) ∧ i2 ≤ Lt ∧ ((tq i = 0 ∧ Bk (takeC tq sq 28 (houC tq sq vq nm m bP (i, false, e, a, s, o, g, j)).1) i2 (sq i2)) ∨ (tq i ≠ 0 ∧ Bk (takeC tq sq 28 (lawC tq sq vq nm m uc (i, false, e, a, s, o, g, j)).1) i2 (sq i2))))) := by
  refine Ct.ofJ (own := RX10) (nm := "isLine") (lv0 := [(0, .ref (mo 0)), (1, .ref (pn 0))]) (by decide) rfl rfl (Nat.le_of_ble_eq_true rfl) rfl (fun X hXl C E => ?_)
  subst hXl
  refine J_aload_n C iX10_isLine_0 rfl rfl ?_
  refine J_get (.ref (mo 2)) 0 C iX10_isLine_1 gf_X10_24 rfl rfl ?_
  refine J_aload_n C iX10_isLine_4 rfl rfl ?_
  refine J_get (.int (nI i)) 0 C iX10_isLine_5 gf_X10_263 rfl rfl ?_
  refine J_iald 2 C iX10_isLine_8 rfl (vp_in_nI (n := i) (by omega) (by decide)) ?_
  rw [nI_clamp (n := i) (by omega)]
  refine J_iconst 3 C iX10_isLine_9 rfl ?_
  refine J_icmpne 19 C iX10_isLine_10 rfl (fun h10 => ?_) (fun h10 => ?_)
  · have n10 : tq i ≠ 3 := fun z => h10 ((kdT (k := 3) (hkd _ (by omega)) (htq _) (by decide) rfl).mpr z)
    refine J_aload_n C iX10_isLine_19 rfl rfl ?_
    refine J_iconst 0 C iX10_isLine_20 rfl ?_
    refine J_cV (As := [.int 0]) (st := []) (rc2 := (rmK 45).cells) (rs2 := (rmK 45).slots) C iX10_isLine_21 lm_X10_266 yc_X10_eat yv_X10_eat (c_X10_eat (k := 0) rfl (by decide) (by decide) (by decide) hLt hkd htq hend hva (by omega)) (q0 := 0) rfl rfl rfl rfl (rmK_le (by omega) (by decide)) (Nat.le_of_ble_eq_true rfl) rfl rfl ?_
    rintro _ _ (⟨rfl, rfl, t_97, l_97⟩ | ⟨rfl, rfl, n_97⟩)
    · refine J_st (.int (b2i true) :: []) rfl ?_
      refine J_ifeqb 77 C iX10_isLine_24 rfl (fun h24 => absurd (h24.symm.trans rfl) (by decide)) (fun h24 => ?_)
      refine J_aload_n C iX10_isLine_27 rfl rfl ?_
      refine J_bipush 30 C iX10_isLine_28 rfl ?_
      refine J_iconst 1 C iX10_isLine_30 rfl ?_
      refine J_cV (As := [.int 30, .int 1]) (st := []) (rc2 := (rmK 45).cells) (rs2 := (rmK 45).slots) C iX10_isLine_31 lm_X10_275 yc_X10_eatAs yv_X10_eatAs (c_X10_eatAs (k := 39) rfl (by decide) (by decide) (by decide) hLt hkd htq hend hva (by omega)) (q0 := 0) rfl rfl rfl rfl (rmK_le (by omega) (by decide)) (Nat.le_of_ble_eq_true rfl) rfl rfl ?_
      rintro _ _ (⟨rfl, rfl, t_98, l_98⟩ | ⟨rfl, rfl, n_98⟩)
      · refine J_st (.int (b2i true) :: []) rfl ?_
        refine J_ifeqb 77 C iX10_isLine_34 rfl (fun h34 => absurd (h34.symm.trans rfl) (by decide)) (fun h34 => ?_)
        refine J_aload_n C iX10_isLine_37 rfl rfl ?_
        refine J_iconst 1 C iX10_isLine_38 rfl ?_
        refine J_cV (As := [.int 1]) (st := []) (rc2 := (rmK 45).cells) (rs2 := (rmK 45).slots) C iX10_isLine_39 lm_X10_266 yc_X10_eat yv_X10_eat (c_X10_eat (k := 1) rfl (by decide) (by decide) (by decide) hLt hkd htq hend hva (by omega)) (q0 := 0) rfl rfl rfl rfl (rmK_le (by omega) (by decide)) (Nat.le_of_ble_eq_true rfl) rfl rfl ?_
        rintro _ _ (⟨rfl, rfl, t_99, l_99⟩ | ⟨rfl, rfl, n_99⟩)
        · refine J_st (.int (b2i true) :: []) rfl ?_
          refine J_ifeqb 77 C iX10_isLine_42 rfl (fun h42 => absurd (h42.symm.trans rfl) (by decide)) (fun h42 => ?_)
          refine J_aload_n C iX10_isLine_45 rfl rfl ?_
          refine J_bipush 31 C iX10_isLine_46 rfl ?_
          refine J_iconst 2 C iX10_isLine_48 rfl ?_
          refine J_cV (As := [.int 31, .int 2]) (st := []) (rc2 := (rmK 45).cells) (rs2 := (rmK 45).slots) C iX10_isLine_49 lm_X10_275 yc_X10_eatAs yv_X10_eatAs (c_X10_eatAs (k := 40) rfl (by decide) (by decide) (by decide) hLt hkd htq hend hva (by omega)) (q0 := 0) rfl rfl rfl rfl (rmK_le (by omega) (by decide)) (Nat.le_of_ble_eq_true rfl) rfl rfl ?_
          rintro _ _ (⟨rfl, rfl, t_100, l_100⟩ | ⟨rfl, rfl, n_100⟩)
          · refine J_st (.int (b2i true) :: []) rfl ?_
            refine J_ifeqb 77 C iX10_isLine_52 rfl (fun h52 => absurd (h52.symm.trans rfl) (by decide)) (fun h52 => ?_)
            refine J_aload_n C iX10_isLine_55 rfl rfl ?_
            refine J_iconst 2 C iX10_isLine_56 rfl ?_
            refine J_cV (As := [.int 2]) (st := []) (rc2 := (rmK 45).cells) (rs2 := (rmK 45).slots) C iX10_isLine_57 lm_X10_266 yc_X10_eat yv_X10_eat (c_X10_eat (k := 2) rfl (by decide) (by decide) (by decide) hLt hkd htq hend hva (by omega)) (q0 := 0) rfl rfl rfl rfl (rmK_le (by omega) (by decide)) (Nat.le_of_ble_eq_true rfl) rfl rfl ?_
            rintro _ _ (⟨rfl, rfl, t_101, l_101⟩ | ⟨rfl, rfl, n_101⟩)
            · refine J_st (.int (b2i true) :: []) rfl ?_
              refine J_ifeqb 77 C iX10_isLine_60 rfl (fun h60 => absurd (h60.symm.trans rfl) (by decide)) (fun h60 => ?_)
              refine J_aload_n C iX10_isLine_63 rfl rfl ?_
              refine J_bipush 31 C iX10_isLine_64 rfl ?_
              refine J_iconst 3 C iX10_isLine_66 rfl ?_
              refine J_cV (As := [.int 31, .int 3]) (st := []) (rc2 := (rmK 45).cells) (rs2 := (rmK 45).slots) C iX10_isLine_67 lm_X10_275 yc_X10_eatAs yv_X10_eatAs (c_X10_eatAs (k := 40) rfl (by decide) (by decide) (by decide) hLt hkd htq hend hva (by omega)) (q0 := 0) rfl rfl rfl rfl (rmK_le (by omega) (by decide)) (Nat.le_of_ble_eq_true rfl) rfl rfl ?_
              rintro _ _ (⟨rfl, rfl, t_102, l_102⟩ | ⟨rfl, rfl, n_102⟩)
              · refine J_st (.int (b2i true) :: []) rfl ?_
                refine J_ifeqb 77 C iX10_isLine_70 rfl (fun h70 => absurd (h70.symm.trans rfl) (by decide)) (fun h70 => ?_)
                refine J_iconst 1 C iX10_isLine_73 rfl ?_
                refine J_goto 78 C iX10_isLine_74 rfl ?_
                exact J_zret C E iX10_isLine_78 rfl (Or.inl ⟨rfl, rfl, t_97, t_98, t_99, t_100, t_101, t_102, l_102⟩)
              · refine J_st (.int (b2i false) :: []) rfl ?_
                refine J_ifeqb 77 C iX10_isLine_70 rfl (fun h70 => ?_) (fun h70 => absurd (h70.symm.trans rfl) (by decide))
                refine J_iconst 0 C iX10_isLine_77 rfl ?_
                exact J_zret C E iX10_isLine_78 rfl (Or.inr (Or.inr ⟨(((((i + 1) + 1) + 1) + 1) + 1), nI 0, nI s, upd (upd (upd me (i + 1) 1) (((i + 1) + 1) + 1) 2) (((((i + 1) + 1) + 1) + 1) + 1) 3, od, wi, al, nI u, dz, bg, en, rfl, rfl, by omega, Or.inl ⟨t_97, by rw [hou1, takeC_ok t_97, houA_ok t_98, takeC_ok t_99, houB_ok t_100, takeC_ok t_101]; exact (Bk.noD n_102).take (by decide)⟩⟩))
            · refine J_st (.int (b2i false) :: []) rfl ?_
              refine J_ifeqb 77 C iX10_isLine_60 rfl (fun h60 => ?_) (fun h60 => absurd (h60.symm.trans rfl) (by decide))
              refine J_iconst 0 C iX10_isLine_77 rfl ?_
              exact J_zret C E iX10_isLine_78 rfl (Or.inr (Or.inr ⟨((((i + 1) + 1) + 1) + 1), nI 0, nI s, upd (upd me (i + 1) 1) (((i + 1) + 1) + 1) 2, od, wi, al, nI u, dz, bg, en, rfl, rfl, by omega, Or.inl ⟨t_97, by rw [hou1, takeC_ok t_97, houA_ok t_98, takeC_ok t_99, houB_ok t_100]; exact ((Bk.no n_101).app fro_houD).take (by decide)⟩⟩))
          · refine J_st (.int (b2i false) :: []) rfl ?_
            refine J_ifeqb 77 C iX10_isLine_52 rfl (fun h52 => ?_) (fun h52 => absurd (h52.symm.trans rfl) (by decide))
            refine J_iconst 0 C iX10_isLine_77 rfl ?_
            exact J_zret C E iX10_isLine_78 rfl (Or.inr (Or.inr ⟨(((i + 1) + 1) + 1), nI 0, nI s, upd (upd me (i + 1) 1) (((i + 1) + 1) + 1) 2, od, wi, al, nI u, dz, bg, en, rfl, rfl, by omega, Or.inl ⟨t_97, by rw [hou1, takeC_ok t_97, houA_ok t_98, takeC_ok t_99]; exact (((Bk.noB n_100).take (by decide)).app fro_houD).take (by decide)⟩⟩))
        · refine J_st (.int (b2i false) :: []) rfl ?_
          refine J_ifeqb 77 C iX10_isLine_42 rfl (fun h42 => ?_) (fun h42 => absurd (h42.symm.trans rfl) (by decide))
          refine J_iconst 0 C iX10_isLine_77 rfl ?_
          exact J_zret C E iX10_isLine_78 rfl (Or.inr (Or.inr ⟨((i + 1) + 1), nI 0, nI s, upd me (i + 1) 1, od, wi, al, nI u, dz, bg, en, rfl, rfl, by omega, Or.inl ⟨t_97, by rw [hou1, takeC_ok t_97, houA_ok t_98]; exact ((((Bk.no n_99).app fro_houB).take (by decide)).app fro_houD).take (by decide)⟩⟩))
      · refine J_st (.int (b2i false) :: []) rfl ?_
        refine J_ifeqb 77 C iX10_isLine_34 rfl (fun h34 => ?_) (fun h34 => absurd (h34.symm.trans rfl) (by decide))
        refine J_iconst 0 C iX10_isLine_77 rfl ?_
        exact J_zret C E iX10_isLine_78 rfl (Or.inr (Or.inr ⟨(i + 1), nI 0, nI s, upd me (i + 1) 1, od, wi, al, nI u, dz, bg, en, rfl, rfl, by omega, Or.inl ⟨t_97, by rw [hou1, takeC_ok t_97]; exact (((((Bk.noA n_98).take (by decide)).app fro_houB).take (by decide)).app fro_houD).take (by decide)⟩⟩))
    · refine J_st (.int (b2i false) :: []) rfl ?_
      refine J_ifeqb 77 C iX10_isLine_24 rfl (fun h24 => ?_) (fun h24 => absurd (h24.symm.trans rfl) (by decide))
      refine J_iconst 0 C iX10_isLine_77 rfl ?_
      exact J_zret C E iX10_isLine_78 rfl (Or.inr (Or.inr ⟨i, nI 0, nI s, me, od, wi, al, nI u, dz, bg, en, rfl, rfl, by omega, Or.inr ⟨n_97, (Bk.lawno n10).take (by decide)⟩⟩))
  · have t10 : tq i = 3 := (kdT (k := 3) (hkd _ (by omega)) (htq _) (by decide) rfl).mp h10
    refine J_aload_n C iX10_isLine_13 rfl rfl ?_
    refine J_aload_n C iX10_isLine_14 rfl rfl ?_
    refine J_cV (As := [.ref (pn 0)]) (st := []) (rc2 := (rmK 45).cells) (rs2 := (rmK 45).slots) C iX10_isLine_15 lm_X10_329 yc_X10_isLaw yv_X10_isLaw (c_X10_isLaw (e := e) (a := a) (o := o) (g := g) (j := j) (m := m) (sq := sq) (nm := nm) hu huc hy hLt hkd htq hend hva hi hs_ hme t10) (q0 := 0) rfl rfl rfl rfl (rmK_le (by omega) (by decide)) (Nat.le_of_ble_eq_true rfl) rfl rfl ?_
    rintro _ _ (⟨i103, s103, me103, od103, wi103, al103, e103, a103, o103, g103, j103, dz103, bg103, en103, z0_103, z1_103, z2_103, z3_103, z4_103, z5_103, rfl, rfl, R103, G103⟩ | ⟨i103, dp103, mn103, me103, od103, wi103, al103, dz103, bg103, en103, rfl, rfl, hL103, B103⟩)
    · refine J_st (.int (b2i true) :: []) rfl ?_
      exact J_zret C E iX10_isLine_18 nb_b2i (Or.inr (Or.inl ⟨i103, s103, me103, od103, wi103, al103, e103, a103, o103, g103, j103, dz103, bg103, en103, z0_103, z1_103, z2_103, z3_103, z4_103, z5_103, rfl, rfl, t10, R103, G103⟩))
    · refine J_st (.int (b2i false) :: []) rfl ?_
      exact J_zret C E iX10_isLine_18 nb_b2i (Or.inr (Or.inr ⟨i103, dp103, mn103, me103, od103, wi103, al103, nI (u + 1), dz103, bg103, en103, rfl, rfl, by omega, Or.inr ⟨by rw [t10]; decide, B103.take (by decide)⟩⟩))

set_option maxRecDepth 100000 in
set_option maxHeartbeats 4000000 in
theorem c_X10_isBook {Z : GZ} {l : Launch} {mo pl pn : Nat → Nat} {th sz ea dy ca hs ls : Int32} {kn : Bool} {hn va : Nat → Int64} {ha hh dz wh bg en tp kd fr wo pc ht fs la kh kf kl sh dk sk : Nat → Int32} {Lt : Nat} {tq : Nat → Nat} {sq : Nat → Int32} {vq nm : Nat → Int64} {me od wi al o g j : Nat → Int32} {a0 : Int32} {bP bH l0 l1 l2 l3 l4 l5 ha9 hh9 wh9 wo9 : Nat → Int32} {hn9 : Nat → Int64} (hLt : Lt ≤ 400) (hkd : ∀ i, i ≤ Lt → kd i = km (tq i)) (htq : ∀ i, tq i < 43) (hend : ∀ i, i ≤ Lt → tq i ≠ 41 → tq i ≠ 42 → i < Lt) (hva : ∀ i, i ≤ Lt → tq i = 39 ∨ tq i = 40 → va i = vq i) (hme : ∀ k, k ≤ Lt → me k = 0)  : Ct Z l yX10_isBook cX10_isBook 2 (some .boolean) (rmK 46) [.ref (mo 0), .ref (pn 0)] (wMd Z mo pl th sz ea (nI 0) (nI 0) (nI 0) dy ca kn tp kd fr me va wo pc ht fs la kh kf kl sh dk sk ++ wPl Z pn hs ls (nI 0) hn ha hh dz wh bg en od wi al) (fun v w => (∃ i2 u2 s2 me2 od2 wi2 al2 dz2 bg2 en2 e2 a2 o2 g2 j2 m2 nm2 bP2 bH2 uc2 l0x2 l1x2 l2x2 l3x2 l4x2 l5x2, v = some (.int (b2i true)) ∧ w = (wMd Z mo pl th sz ea (nI i2) (nI 0) (nI u2) dy ca kn tp kd fr me2 va wo pc ht fs la kh kf kl sh dk sk ++ wPl Z pn hs ls (nI s2) hn ha hh dz2 wh bg2 en2 od2 wi2 al2) ∧ tq i2 = 41 ∧ i2 ≤ Lt ∧ s2 ≤ i2 ∧ readR tq sq vq 400 ((0, false, 0, a0, 0, o, g, j), 0, nm, bP, bH, 0, l0, l1, l2, l3, l4, l5) = ((i2, false, e2, a2, s2, o2, g2, j2), m2, nm2, bP2, bH2, uc2, l0x2, l1x2, l2x2, l3x2, l4x2, l5x2) ∧ MkOk tq me2 i2 ∧ BookI tq vq (p2N sq vq me2 0 (0, a0, 0, hn9, ha9, hh9, 0, wh9, wo9) i2) i2 u2 s2 me2 od2 wi2 al2 dz2 bg2 en2 e2 a2 o2 g2 j2 m2 nm2 bP2 bH2 uc2 l0x2 l1x2 l2x2 l3x2 l4x2 l5x2) ∨ (∃ i2 dp2 mn2 me2 od2 wi2 al2 lr2 dz2 bg2 en2, v = some (.int (b2i false)) ∧ w = (wMd Z mo pl th sz ea (nI i2) dp2 lr2 dy ca kn tp kd fr me2 va wo pc ht fs la kh kf kl sh dk sk ++ wPl Z pn hs ls mn2 hn ha hh dz2 wh bg2 en2 od2 wi2 al2) ∧ i2 ≤ Lt ∧ Bk (readR tq sq vq 400 ((0, false, 0, a0, 0, o, g, j), 0, nm, bP, bH, 0, l0, l1, l2, l3, l4, l5)).1 i2 (sq i2))) := by
  refine Ct.ofJ (own := RX10) (nm := "isBook") (lv0 := [(0, .ref (mo 0)), (1, .ref (pn 0))]) (by decide) rfl rfl (Nat.le_of_ble_eq_true rfl) rfl (fun X hXl C E => ?_)
  subst hXl
  refine J_whl (σ := Nat × Nat × Nat × (Nat → Int32) × (Nat → Int32) × (Nat → Int32) × (Nat → Int32) × (Nat → Int32) × (Nat → Int32) × (Nat → Int32)) (fun q => [(0, .ref (mo 0)), (1, .ref (pn 0))]) (fun q => (wMd Z mo pl th sz ea (nI q.1) (nI 0) (nI q.2.1) dy ca kn tp kd fr q.2.2.2.1 va wo pc ht fs la kh kf kl sh dk sk ++ wPl Z pn hs ls (nI q.2.2.1) hn ha hh q.2.2.2.2.2.2.2.1 wh q.2.2.2.2.2.2.2.2.1 q.2.2.2.2.2.2.2.2.2 q.2.2.2.2.1 q.2.2.2.2.2.1 q.2.2.2.2.2.2.1)) (fun q => ∃ e9 a9 o9 g9 j9 m9 nm9 bP9 bH9 uc9 l0x9 l1x9 l2x9 l3x9 l4x9 l5x9 f9, readR tq sq vq f9 ((q.1, false, e9, a9, q.2.2.1, o9, g9, j9), m9, nm9, bP9, bH9, uc9, l0x9, l1x9, l2x9, l3x9, l4x9, l5x9) = readR tq sq vq 400 ((0, false, 0, a0, 0, o, g, j), 0, nm, bP, bH, 0, l0, l1, l2, l3, l4, l5) ∧ 800 ≤ 2 * f9 + q.1 ∧ q.1 ≤ Lt ∧ q.2.2.1 ≤ q.1 ∧ q.2.1 ≤ q.1 ∧ (∀ k, q.1 ≤ k → k ≤ Lt → q.2.2.2.1 k = 0) ∧ MkOk tq q.2.2.2.1 q.1 ∧ BookI tq vq (p2N sq vq q.2.2.2.1 0 (0, a0, 0, hn9, ha9, hh9, 0, wh9, wo9) q.1) q.1 q.2.1 q.2.2.1 q.2.2.2.1 q.2.2.2.2.1 q.2.2.2.2.2.1 q.2.2.2.2.2.2.1 q.2.2.2.2.2.2.2.1 q.2.2.2.2.2.2.2.2.1 q.2.2.2.2.2.2.2.2.2 e9 a9 o9 g9 j9 m9 nm9 bP9 bH9 uc9 l0x9 l1x9 l2x9 l3x9 l4x9 l5x9) (fun q => Lt - q.1) (0, 0, 0, me, od, wi, al, dz, bg, en) ⟨0, a0, o, g, j, 0, nm, bP, bH, 0, l0, l1, l2, l3, l4, l5, 400, rfl, by dsimp only; omega, by dsimp only; omega, by dsimp only; omega, by dsimp only; omega, fun k h1 h2 => hme k h2, fun k hk => absurd hk (Nat.not_lt_zero _), rfl, by omega, ⟨_, rfl⟩, fun _ => ⟨by dsimp only; omega, hn9, ha9, hh9, wh9, wo9, rfl, ⟨fun k hk => absurd hk (Nat.not_lt_zero _), fun k hk => absurd hk (Nat.not_lt_zero _)⟩, fun r hr => absurd hr (Nat.not_lt_zero _), fun r hr => absurd hr (Nat.not_lt_zero _), fun r hr => absurd hr (Nat.not_lt_zero _)⟩⟩ ?_
  rintro ⟨i5, u5, s5, me5, od5, wi5, al5, dz5, bg5, en5⟩ ⟨e5, a5, o5, g5, j5, m5, nm5, bP5, bH5, uc5, l0x5, l1x5, l2x5, l3x5, l4x5, l5x5, f5, hR, hf, hi, hs_, hu_, hme5, hMk, hB⟩ ih
  dsimp only at hR hf hi hs_ hu_ hme5 hMk hB ih ⊢
  have huc := hB.1
  refine J_aload_n C iX10_isBook_0 rfl rfl ?_
  refine J_get (.ref (mo 2)) 0 C iX10_isBook_1 gf_X10_24 rfl rfl ?_
  refine J_aload_n C iX10_isBook_4 rfl rfl ?_
  refine J_get (.int (nI i5)) 0 C iX10_isBook_5 gf_X10_263 rfl rfl ?_
  refine J_iald 2 C iX10_isBook_8 rfl (vp_in_nI (n := i5) (by omega) (by decide)) ?_
  rw [nI_clamp (n := i5) (by omega)]
  refine J_bipush 33 C iX10_isBook_9 rfl ?_
  refine J_icmpeq 33 C iX10_isBook_11 rfl (fun h11 => ?_) (fun h11 => ?_)
  · have t11 : tq i5 = 41 := (kdT (k := 41) (hkd _ (by omega)) (htq _) (by decide) rfl).mp h11
    refine J_iconst 1 C iX10_isBook_33 rfl ?_
    exact J_zret C E iX10_isBook_34 rfl (Or.inl ⟨i5, u5, s5, me5, od5, wi5, al5, dz5, bg5, en5, e5, a5, o5, g5, j5, m5, nm5, bP5, bH5, uc5, l0x5, l1x5, l2x5, l3x5, l4x5, l5x5, rfl, rfl, t11, hi, hs_, by rw [← hR, readR_end (now_eq t11)], hMk, hB⟩)
  · have n11 : tq i5 ≠ 41 := fun z => h11 ((kdT (k := 41) (hkd _ (by omega)) (htq _) (by decide) rfl).mpr z)
    refine J_aload_n C iX10_isBook_14 rfl rfl ?_
    refine J_aload_n C iX10_isBook_15 rfl rfl ?_
    refine J_cV (As := [.ref (pn 0)]) (st := []) (rc2 := (rmK 46).cells) (rs2 := (rmK 46).slots) C iX10_isBook_16 lm_X10_332 yc_X10_isLine yv_X10_isLine (c_X10_isLine (e := e5) (a := a5) (o := o5) (g := g5) (j := j5) (m := m5) (sq := sq) (nm := nm5) (bP := bP5) (uc := uc5) (y := min u5 15) (by omega) huc rfl hLt hkd htq hend hva hi hs_ hme5) (q0 := 0) rfl rfl rfl rfl (rmK_le (by omega) (by decide)) (Nat.le_of_ble_eq_true rfl) rfl rfl ?_
    rintro _ _ (⟨rfl, rfl, th0, th1, th2, th3, th4, th5, thl⟩ | ⟨i104, s104, me104, od104, wi104, al104, e104, a104, o104, g104, j104, dz104, bg104, en104, z0_104, z1_104, z2_104, z3_104, z4_104, z5_104, rfl, rfl, tl0, R104, G104⟩ | ⟨i104, dp104, mn104, me104, od104, wi104, al104, lr104, dz104, bg104, en104, rfl, rfl, hL104, B104⟩)
    · refine J_st (.int (b2i true) :: []) rfl ?_
      refine J_ifeqb 31 C iX10_isBook_19 rfl (fun h19 => absurd (h19.symm.trans rfl) (by decide)) (fun h19 => ?_)
      refine J_aload_n C iX10_isBook_22 rfl rfl ?_
      refine J_bipush 59 C iX10_isBook_23 rfl ?_
      refine J_cV (As := [.int 59]) (st := []) (rc2 := (rmK 46).cells) (rs2 := (rmK 46).slots) C iX10_isBook_25 lm_X10_266 yc_X10_eat yv_X10_eat (c_X10_eat (k := 28) rfl (by decide) (by decide) (by decide) hLt hkd htq hend hva (by omega)) (q0 := 0) rfl rfl rfl rfl (rmK_le (by omega) (by decide)) (Nat.le_of_ble_eq_true rfl) rfl rfl ?_
      rintro _ _ (⟨rfl, rfl, t_105, l_105⟩ | ⟨rfl, rfl, n_105⟩)
      · refine J_st (.int (b2i true) :: []) rfl ?_
        refine J_ifneb 0 C iX10_isBook_28 rfl (fun h28 => ?_) (fun h28 => absurd (h28.symm.trans rfl) (by decide))
        refine J_lvm [(0, .ref (mo 0)), (1, .ref (pn 0))] (by rfl) ?_
        obtain ⟨m6, nm6, bP6, bH6, q1, q2, q3, q4, hB6⟩ := hB.house (fr := sq) (Lt := Lt) (by omega) hme5
        refine ih (i5 + 1 + 1 + 1 + 1 + 1 + 1 + 1, u5, s5, meH me5 i5, od5, wi5, al5, dz5, bg5, en5) ?_ (by dsimp only; omega)
        dsimp only
        have e9 : p2N sq vq (meH me5 i5) 0 (0, a0, 0, hn9, ha9, hh9, 0, wh9, wo9) (i5 + 1 + 1 + 1 + 1 + 1 + 1 + 1) = p2N sq vq (meH me5 i5) i5 (p2N sq vq me5 0 (0, a0, 0, hn9, ha9, hh9, 0, wh9, wo9) i5) 7 := by (rw [show i5 + 1 + 1 + 1 + 1 + 1 + 1 + 1 = i5 + 7 by omega, p2N_add, Nat.zero_add, p2N_cong (me := me5) (me2 := meH me5 i5) (i := 0) (n := i5) (fun k _ h => by rw [meH, upd_n (by omega), upd_n (by omega), upd_n (by omega)])])
        exact ⟨_, _, o5, g5, j5, m6, nm6, bP6, bH6, uc5, l0x5, l1x5, l2x5, l3x5, l4x5, l5x5, f5 - 1, by rw [← q1, ← q2, ← q3, ← q4, ← hR, readR_go (f := f5) (by omega) (by rw [nowC_ok, th0]; decide) brk_f, lineC_h th0 th1 th2 th3 th4 th5 t_105], by omega, by omega, by omega, by omega, fun k h1 h2 => by rw [meH, upd_n (by omega), upd_n (by omega), upd_n (by omega)]; exact hme5 k (by omega) h2, hMk.house hme5 (by omega) th1 th3 th5, by rw [e9]; exact hB6⟩
      · refine J_st (.int (b2i false) :: []) rfl ?_
        refine J_ifneb 0 C iX10_isBook_28 rfl (fun h28 => absurd (h28.symm.trans rfl) (by decide)) (fun h28 => ?_)
        refine J_iconst 0 C iX10_isBook_31 rfl ?_
        exact J_zret C E iX10_isBook_32 rfl (Or.inr ⟨(i5 + 1 + 1 + 1 + 1 + 1 + 1), nI 0, nI s5, meH me5 i5, od5, wi5, al5, nI u5, dz5, bg5, en5, rfl, rfl, by omega, by rw [← hR, readR_go (f := f5) (by omega) (by rw [nowC_ok]; exact n11) brk_f]; obtain ⟨X9, e1, e2⟩ := lineC_bh (vf := vq) (nm := nm5) (bP := bP5) (bH := bH5) (m := m5) (u := uc5) (l0 := l0x5) (l1 := l1x5) (l2 := l2x5) (l3 := l3x5) (l4 := l4x5) (l5 := l5x5) th0 (show Bk (takeC tq sq 28 (houC tq sq vq nm5 m5 bP5 (i5, false, e5, a5, s5, o5, g5, j5)).1) _ _ by rw [hou1, takeC_ok th0, houA_ok th1, takeC_ok th2, houB_ok th3, takeC_ok th4, houD_ok th5]; exact Bk.no n_105); rw [e1, readR_brk e2.brk]; exact e2⟩)
    · refine J_st (.int (b2i true) :: []) rfl ?_
      have hiL104 := G104.2.2.1.iL
      refine J_ifeqb 31 C iX10_isBook_19 rfl (fun h19 => absurd (h19.symm.trans rfl) (by decide)) (fun h19 => ?_)
      refine J_aload_n C iX10_isBook_22 rfl rfl ?_
      refine J_bipush 59 C iX10_isBook_23 rfl ?_
      refine J_cV (As := [.int 59]) (st := []) (rc2 := (rmK 46).cells) (rs2 := (rmK 46).slots) C iX10_isBook_25 lm_X10_266 yc_X10_eat yv_X10_eat (c_X10_eat (k := 28) rfl (by decide) (by decide) (by decide) hLt hkd htq hend hva (by omega)) (q0 := 0) rfl rfl rfl rfl (rmK_le (by omega) (by decide)) (Nat.le_of_ble_eq_true rfl) rfl rfl ?_
      rintro _ _ (⟨rfl, rfl, t_106, l_106⟩ | ⟨rfl, rfl, n_106⟩)
      · refine J_st (.int (b2i true) :: []) rfl ?_
        refine J_ifneb 0 C iX10_isBook_28 rfl (fun h28 => ?_) (fun h28 => absurd (h28.symm.trans rfl) (by decide))
        refine J_lvm [(0, .ref (mo 0)), (1, .ref (pn 0))] (by rfl) ?_
        have hB6 := hB.law (fr := sq) (y := min u5 15) rfl hme5 G104 l_106
        have hGs := G104.2.2.1
        have hgil := hGs.il
        have hgss := hGs.ss
        have hfm : ∀ k, k < i5 ∨ i104 ≤ k → me104 k = me5 k := fun k hk => (hGs.fm k (by omega)).trans (by rw [upd_n (by omega), upd_n (by omega)])
        refine ih (i104 + 1, u5 + 1, s104, me104, od104, wi104, al104, dz104, bg104, en104) ?_ (by dsimp only; omega)
        dsimp only
        have e9 : p2N sq vq me104 0 (0, a0, 0, hn9, ha9, hh9, 0, wh9, wo9) (i104 + 1) = p2N sq vq me104 i5 (p2N sq vq me5 0 (0, a0, 0, hn9, ha9, hh9, 0, wh9, wo9) i5) (i104 + 1 - i5) := by (rw [show i104 + 1 = i5 + (i104 + 1 - i5) by omega, p2N_add, Nat.zero_add, p2N_cong (me := me5) (me2 := me104) (i := 0) (n := i5) (fun k _ h => hfm k (by omega)), show i5 + (i104 + 1 - i5) - i5 = i104 + 1 - i5 by omega])
        exact ⟨e104, a104, o104, g104, j104, m5, nm5, bP5, bH5, inc uc5 16, updC l0x5 uc5 16 z0_104, updC l1x5 uc5 16 z1_104, updC l2x5 uc5 16 z2_104, updC l3x5 uc5 16 z3_104, updC l4x5 uc5 16 z4_104, updC l5x5 uc5 16 z5_104, f5 - 1, by rw [← hR, readR_go (f := f5) (by omega) (by rw [nowC_ok, tl0]; decide) brk_f, lineC_l tl0 t_106 R104], by omega, by omega, by omega, by omega, fun k h1 h2 => by rw [hfm k (by omega)]; exact hme5 k (by omega) h2, hMk.law hme5 hgil l_106 hGs.fm hGs.mk G104.1, by rw [e9]; exact hB6⟩
      · refine J_st (.int (b2i false) :: []) rfl ?_
        refine J_ifneb 0 C iX10_isBook_28 rfl (fun h28 => absurd (h28.symm.trans rfl) (by decide)) (fun h28 => ?_)
        refine J_iconst 0 C iX10_isBook_31 rfl ?_
        exact J_zret C E iX10_isBook_32 rfl (Or.inr ⟨i104, nI 0, nI s104, me104, od104, wi104, al104, nI (u5 + 1), dz104, bg104, en104, rfl, rfl, by omega, by rw [← hR, readR_go (f := f5) (by omega) (by rw [nowC_ok]; exact n11) brk_f]; obtain ⟨X9, e1, e2⟩ := lineC_bl (vf := vq) (nm := nm5) (bP := bP5) (bH := bH5) (m := m5) (u := uc5) (l0 := l0x5) (l1 := l1x5) (l2 := l2x5) (l3 := l3x5) (l4 := l4x5) (l5 := l5x5) (by rw [tl0]; decide) (show Bk (takeC tq sq 28 (lawC tq sq vq nm5 m5 uc5 (i5, false, e5, a5, s5, o5, g5, j5)).1) _ _ by rw [R104]; exact Bk.no n_106); rw [e1, readR_brk e2.brk]; exact e2⟩)
    · refine J_st (.int (b2i false) :: []) rfl ?_
      refine J_ifeqb 31 C iX10_isBook_19 rfl (fun h19 => ?_) (fun h19 => absurd (h19.symm.trans rfl) (by decide))
      refine J_iconst 0 C iX10_isBook_31 rfl ?_
      exact J_zret C E iX10_isBook_32 rfl (Or.inr ⟨i104, dp104, mn104, me104, od104, wi104, al104, lr104, dz104, bg104, en104, rfl, rfl, by omega, by rw [← hR, readR_go (f := f5) (by omega) (by rw [nowC_ok]; exact n11) brk_f]; rcases B104 with ⟨t0, B9⟩ | ⟨t0, B9⟩; (obtain ⟨X9, e1, e2⟩ := lineC_bh (vf := vq) (nm := nm5) (bP := bP5) (bH := bH5) (m := m5) (u := uc5) (l0 := l0x5) (l1 := l1x5) (l2 := l2x5) (l3 := l3x5) (l4 := l4x5) (l5 := l5x5) t0 B9; rw [e1, readR_brk e2.brk]; exact e2); (obtain ⟨X9, e1, e2⟩ := lineC_bl (vf := vq) (nm := nm5) (bP := bP5) (bH := bH5) (m := m5) (u := uc5) (l0 := l0x5) (l1 := l1x5) (l2 := l2x5) (l3 := l3x5) (l4 := l4x5) (l5 := l5x5) t0 B9; rw [e1, readR_brk e2.brk]; exact e2)⟩)

