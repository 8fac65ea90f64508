set_option maxRecDepth 100000 in
set_option maxHeartbeats 4000000 in
theorem c_X10_isAbout_12 {Z : GZ} {l : Launch} {mo pl pn : Nat → Nat} {th sz ea lr dy ca hs ls : Int32} {kn : Bool} {hn va : Nat → Int64} {ha hh dz wh bg en tp kd fr wo pc ht fs la kh kf kl sh dk sk : Nat → Int32} {Lt m : Nat} {tq : Nat → Nat} {sq : Nat → Int32} {vq nm : Nat → Int64} {i s d : Nat} {me od wi al : Nat → Int32} {e a : Int32} {o g j : Nat → Int32} (hLt : Lt ≤ 400) (hkd : ∀ i, i ≤ Lt → kd i = km (tq i)) (htq : ∀ i, tq i < 43) (hend : ∀ i, i ≤ Lt → tq i ≠ 41 → tq i ≠ 42 → i < Lt) (hva : ∀ i, i ≤ Lt → tq i = 39 ∨ tq i = 40 → va i = vq i) (hi : i ≤ Lt) (hs_ : s ≤ i) (hme : ∀ k, i ≤ k → k ≤ Lt → me k = 0) (htk : tq i = 12)  : Ct Z l yX10_isAbout cX10_isAbout 4 (some .boolean) (rmK 2) [.ref (mo 0), .ref (pn 0), .int 12] (wMd Z mo pl th sz ea (nI i) (nI d) lr dy ca kn tp kd fr me va wo pc ht fs la kh kf kl sh dk sk ++ wPl Z pn hs ls (nI s) hn ha hh dz wh bg en od wi al) (fun v w => (∃ i2 s2 me2 od2 wi2 al2 e2 a2 o2 g2 j2, v = some (.int (b2i true)) ∧ w = (wMd Z mo pl th sz ea (nI i2) (nI d) lr dy ca kn tp kd fr me2 va wo pc ht fs la kh kf kl sh dk sk ++ wPl Z pn hs ls (nI s2) hn ha hh dz wh bg en od2 wi2 al2) ∧ abtC tq sq vq nm m 3 (i, false, e, a, s, o, g, j) = (i2, false, e2, a2, s2, o2, g2, j2) ∧ Gd Lt tq sq vq nm m false i s me od wi al e a o g j i2 s2 me2 od2 wi2 al2 e2 a2 o2 g2 j2) ∨ (∃ i2 dp2 mn2 me2 od2 wi2 al2, v = some (.int (b2i false)) ∧ w = (wMd Z mo pl th sz ea (nI i2) dp2 lr dy ca kn tp kd fr me2 va wo pc ht fs la kh kf kl sh dk sk ++ wPl Z pn hs ls mn2 hn ha hh dz wh bg en od2 wi2 al2) ∧ i2 ≤ Lt ∧ Bk (abtC tq sq vq nm m 3 (i, false, e, a, s, o, g, j)) i2 (sq i2))) := by
  refine Ct.ofJ (own := RX10) (nm := "isAbout") (lv0 := [(0, .ref (mo 0)), (1, .ref (pn 0)), (2, .int 12)]) (by decide) rfl rfl (Nat.le_of_ble_eq_true rfl) rfl (fun X hXl C E => ?_)
  subst hXl
  refine J_aload_n C iX10_isAbout_0 rfl rfl ?_
  refine J_dup C iX10_isAbout_1 rfl ?_
  refine J_get (.int (nI i)) 0 C iX10_isAbout_2 gf_X10_263 rfl rfl ?_
  refine J_iconst 1 C iX10_isAbout_5 rfl ?_
  refine J_iadd C iX10_isAbout_6 ?_
  rw [show (nI i) + 1 = nI (i + 1) from nI_add _ _]
  refine J_put (wMd Z mo pl th sz ea (nI (i + 1)) (nI d) lr dy ca kn tp kd fr me va wo pc ht fs la kh kf kl sh dk sk ++ wPl Z pn hs ls (nI s) hn ha hh dz wh bg en od wi al) 0 C iX10_isAbout_7 pf_X10_263 rfl rfl rfl (Nat.le_of_ble_eq_true rfl) rfl ?_
  have hl0 : i < Lt := hend i hi (by rw [htk]; decide) (by rw [htk]; decide)
  refine J_iload_n C iX10_isAbout_10 rfl rfl ?_
  refine J_bipush 12 C iX10_isAbout_11 rfl ?_
  refine J_bipush 14 C iX10_isAbout_13 rfl ?_
  refine J_cSp (As := [.int 12, .int 12, .int 14]) (st := []) C iX10_isAbout_15 lm_X10_76 yc_X10_isIn ys_X10_isIn (c_X10_isIn (q := 12) (a := 12) (b := 14)) rfl (rmK_le (by omega) (by decide)) (Nat.le_of_ble_eq_true rfl) ⟨rfl, rfl⟩ ?_
  rintro _ rfl
  refine J_st (.int (b2i (inX 12 12 14)) :: []) rfl ?_
  refine J_ifeqb 32 C iX10_isAbout_18 rfl (fun h18 => absurd (h18.symm.trans (by decide : inX 12 12 14 = true)) (by decide)) (fun h18 => ?_)
  refine J_aload_n C iX10_isAbout_21 rfl rfl ?_
  refine J_bipush 16 C iX10_isAbout_22 rfl ?_
  refine J_cV (As := [.int 16]) (st := []) (rc2 := (rmK 2).cells) (rs2 := (rmK 2).slots) C iX10_isAbout_24 lm_X10_266 yc_X10_eat yv_X10_eat (c_X10_eat (k := 16) rfl (by decide) (by decide) (by decide) hLt hkd htq hend hva (by omega)) (q0 := 0) rfl rfl rfl rfl (rmK_le (by omega) (by decide)) (Nat.le_of_ble_eq_true rfl) rfl rfl ?_
  rintro _ _ (⟨rfl, rfl, t_20, l_20⟩ | ⟨rfl, rfl, n_20⟩)
  · refine J_st (.int (b2i true) :: []) rfl ?_
    refine J_ifneb 32 C iX10_isAbout_27 rfl (fun h27 => ?_) (fun h27 => absurd (h27.symm.trans rfl) (by decide))
    refine J_aload_n C iX10_isAbout_32 rfl rfl ?_
    refine J_get (.int (nI ((i + 1) + 1))) 0 C iX10_isAbout_33 gf_X10_263 rfl rfl ?_
    refine J_istore_n [(3, .int (nI ((i + 1) + 1))), (0, .ref (mo 0)), (1, .ref (pn 0)), (2, .int 12)] C iX10_isAbout_36 rfl (by decide) rfl ?_
    refine J_aload_n C iX10_isAbout_37 rfl rfl ?_
    refine J_bipush 30 C iX10_isAbout_38 rfl ?_
    refine J_bipush 6 C iX10_isAbout_40 rfl ?_
    refine J_cV (As := [.int 30, .int 6]) (st := []) (rc2 := (rmK 2).cells) (rs2 := (rmK 2).slots) C iX10_isAbout_42 lm_X10_275 yc_X10_eatAs yv_X10_eatAs (c_X10_eatAs (k := 39) rfl (by decide) (by decide) (by decide) hLt hkd htq hend hva (by omega)) (q0 := 0) rfl rfl rfl rfl (rmK_le (by omega) (by decide)) (Nat.le_of_ble_eq_true rfl) rfl rfl ?_
    rintro _ _ (⟨rfl, rfl, t_21, l_21⟩ | ⟨rfl, rfl, n_21⟩)
    · refine J_st (.int (b2i true) :: []) rfl ?_
      refine J_ifneb 50 C iX10_isAbout_45 rfl (fun h45 => ?_) (fun h45 => absurd (h45.symm.trans rfl) (by decide))
      refine J_aload_n C iX10_isAbout_50 rfl rfl ?_
      refine J_get (.ref (pn 10)) 17 C iX10_isAbout_51 gf_X10_207 rfl rfl ?_
      refine J_aload_n C iX10_isAbout_54 rfl rfl ?_
      refine J_get (.int (nI s)) 17 C iX10_isAbout_55 gf_X10_272 rfl rfl ?_
      refine J_aload_n C iX10_isAbout_58 rfl rfl ?_
      refine J_get (.int (nI (((i + 1) + 1) + 1))) 0 C iX10_isAbout_59 gf_X10_263 rfl rfl ?_
      refine J_iast (wMd Z mo pl th sz ea (nI (((i + 1) + 1) + 1)) (nI d) lr dy ca kn tp kd fr (upd me ((i + 1) + 1) 6) va wo pc ht fs la kh kf kl sh dk sk ++ wPl Z pn hs ls (nI s) hn ha hh dz wh bg en od wi (upd al (nI s).toNatClampNeg (nI (((i + 1) + 1) + 1)))) 27 C iX10_isAbout_62 rfl (vp_in_nI (n := s) (by omega) (by decide)) rfl ?_
      rw [nI_clamp (n := s) (by omega)]
      refine J_iload_n C iX10_isAbout_63 rfl rfl ?_
      refine J_bipush 17 C iX10_isAbout_64 rfl ?_
      refine J_icmpne 82 C iX10_isAbout_66 rfl (fun h66 => ?_) (fun h66 => absurd h66 (by decide))
      refine J_aload_n C iX10_isAbout_82 rfl rfl ?_
      refine J_aload_n C iX10_isAbout_83 rfl rfl ?_
      refine J_iload_n C iX10_isAbout_84 rfl rfl ?_
      refine J_iload_n C iX10_isAbout_85 rfl rfl ?_
      refine J_cV (As := [.ref (pn 0), .int 12, .int (nI ((i + 1) + 1))]) (st := []) (rc2 := (rmK 2).cells) (rs2 := (rmK 2).slots) C iX10_isAbout_86 lm_X10_279 yc_X10_put yv_X10_put (c_X10_put (s := s) (by omega)) (q0 := 0) rfl rfl rfl rfl (rmK_le (by omega) (by decide)) (Nat.le_of_ble_eq_true rfl) rfl rfl ?_
      rintro _ _ ⟨rfl, rfl⟩
      refine J_st ([]) rfl ?_
      refine J_iconst 1 C iX10_isAbout_89 rfl ?_
      exact J_zret C E iX10_isAbout_90 rfl (Or.inl ⟨(((i + 1) + 1) + 1), (s + 1), upd me ((i + 1) + 1) 6, upd od s 12, upd wi s (nI ((i + 1) + 1)), upd al s (nI (((i + 1) + 1) + 1)), (tlK sq vq nm m (i + 1 + 1) (e, a)).1, (tlK sq vq nm m (i + 1 + 1) (e, a)).2, upd o s 3, upd g s (hnF nm (vq (i + 1 + 1)) m), upd j s 0, rfl, rfl, by rw [abtC, nowC_ok, takeC_ok rfl, takeC_ok t_20, hse_ok t_21, knw_ok t_21, stepC_lt (by omega)], ((Gd.name (c := 3) (p := (e, a)) (Or.inl ⟨rfl, by decide, by decide⟩) l_21 t_21 (fun r hr => upd_n (by omega))).pre (hme _ (by omega) (by omega))).pre (hme _ (by omega) (by omega))⟩)
    · refine J_st (.int (b2i false) :: []) rfl ?_
      refine J_ifneb 50 C iX10_isAbout_45 rfl (fun h45 => absurd (h45.symm.trans rfl) (by decide)) (fun h45 => ?_)
      refine J_iconst 0 C iX10_isAbout_48 rfl ?_
      exact J_zret C E iX10_isAbout_49 rfl (Or.inr ⟨((i + 1) + 1), nI d, nI s, upd me ((i + 1) + 1) 6, od, wi, al, rfl, rfl, by omega, by rw [abtC, nowC_ok, takeC_ok rfl, takeC_ok t_20]; exact (Bk.kno n_21).step⟩)
  · refine J_st (.int (b2i false) :: []) rfl ?_
    refine J_ifneb 32 C iX10_isAbout_27 rfl (fun h27 => absurd (h27.symm.trans rfl) (by decide)) (fun h27 => ?_)
    refine J_iconst 0 C iX10_isAbout_30 rfl ?_
    exact J_zret C E iX10_isAbout_31 rfl (Or.inr ⟨(i + 1), nI d, nI s, me, od, wi, al, rfl, rfl, by omega, by rw [abtC, nowC_ok, takeC_ok rfl]; exact (Bk.no n_20).knw.step⟩)

set_option maxRecDepth 100000 in
set_option maxHeartbeats 4000000 in
theorem c_X10_isAbout_13 {Z : GZ} {l : Launch} {mo pl pn : Nat → Nat} {th sz ea lr dy ca hs ls : Int32} {kn : Bool} {hn va : Nat → Int64} {ha hh dz wh bg en tp kd fr wo pc ht fs la kh kf kl sh dk sk : Nat → Int32} {Lt m : Nat} {tq : Nat → Nat} {sq : Nat → Int32} {vq nm : Nat → Int64} {i s d : Nat} {me od wi al : Nat → Int32} {e a : Int32} {o g j : Nat → Int32} (hLt : Lt ≤ 400) (hkd : ∀ i, i ≤ Lt → kd i = km (tq i)) (htq : ∀ i, tq i < 43) (hend : ∀ i, i ≤ Lt → tq i ≠ 41 → tq i ≠ 42 → i < Lt) (hva : ∀ i, i ≤ Lt → tq i = 39 ∨ tq i = 40 → va i = vq i) (hi : i ≤ Lt) (hs_ : s ≤ i) (hme : ∀ k, i ≤ k → k ≤ Lt → me k = 0) (htk : tq i = 13)  : Ct Z l yX10_isAbout cX10_isAbout 4 (some .boolean) (rmK 2) [.ref (mo 0), .ref (pn 0), .int 13] (wMd Z mo pl th sz ea (nI i) (nI d) lr dy ca kn tp kd fr me va wo pc ht fs la kh kf kl sh dk sk ++ wPl Z pn hs ls (nI s) hn ha hh dz wh bg en od wi al) (fun v w => (∃ i2 s2 me2 od2 wi2 al2 e2 a2 o2 g2 j2, v = some (.int (b2i true)) ∧ w = (wMd Z mo pl th sz ea (nI i2) (nI d) lr dy ca kn tp kd fr me2 va wo pc ht fs la kh kf kl sh dk sk ++ wPl Z pn hs ls (nI s2) hn ha hh dz wh bg en od2 wi2 al2) ∧ abtC tq sq vq nm m 4 (i, false, e, a, s, o, g, j) = (i2, false, e2, a2, s2, o2, g2, j2) ∧ Gd Lt tq sq vq nm m false i s me od wi al e a o g j i2 s2 me2 od2 wi2 al2 e2 a2 o2 g2 j2) ∨ (∃ i2 dp2 mn2 me2 od2 wi2 al2, v = some (.int (b2i false)) ∧ w = (wMd Z mo pl th sz ea (nI i2) dp2 lr dy ca kn tp kd fr me2 va wo pc ht fs la kh kf kl sh dk sk ++ wPl Z pn hs ls mn2 hn ha hh dz wh bg en od2 wi2 al2) ∧ i2 ≤ Lt ∧ Bk (abtC tq sq vq nm m 4 (i, false, e, a, s, o, g, j)) i2 (sq i2))) := by
  refine Ct.ofJ (own := RX10) (nm := "isAbout") (lv0 := [(0, .ref (mo 0)), (1, .ref (pn 0)), (2, .int 13)]) (by decide) rfl rfl (Nat.le_of_ble_eq_true rfl) rfl (fun X hXl C E => ?_)
  subst hXl
  refine J_aload_n C iX10_isAbout_0 rfl rfl ?_
  refine J_dup C iX10_isAbout_1 rfl ?_
  refine J_get (.int (nI i)) 0 C iX10_isAbout_2 gf_X10_263 rfl rfl ?_
  refine J_iconst 1 C iX10_isAbout_5 rfl ?_
  refine J_iadd C iX10_isAbout_6 ?_
  rw [show (nI i) + 1 = nI (i + 1) from nI_add _ _]
  refine J_put (wMd Z mo pl th sz ea (nI (i + 1)) (nI d) lr dy ca kn tp kd fr me va wo pc ht fs la kh kf kl sh dk sk ++ wPl Z pn hs ls (nI s) hn ha hh dz wh bg en od wi al) 0 C iX10_isAbout_7 pf_X10_263 rfl rfl rfl (Nat.le_of_ble_eq_true rfl) rfl ?_
  have hl0 : i < Lt := hend i hi (by rw [htk]; decide) (by rw [htk]; decide)
  refine J_iload_n C iX10_isAbout_10 rfl rfl ?_
  refine J_bipush 12 C iX10_isAbout_11 rfl ?_
  refine J_bipush 14 C iX10_isAbout_13 rfl ?_
  refine J_cSp (As := [.int 13, .int 12, .int 14]) (st := []) C iX10_isAbout_15 lm_X10_76 yc_X10_isIn ys_X10_isIn (c_X10_isIn (q := 13) (a := 12) (b := 14)) rfl (rmK_le (by omega) (by decide)) (Nat.le_of_ble_eq_true rfl) ⟨rfl, rfl⟩ ?_
  rintro _ rfl
  refine J_st (.int (b2i (inX 13 12 14)) :: []) rfl ?_
  refine J_ifeqb 32 C iX10_isAbout_18 rfl (fun h18 => absurd (h18.symm.trans (by decide : inX 13 12 14 = true)) (by decide)) (fun h18 => ?_)
  refine J_aload_n C iX10_isAbout_21 rfl rfl ?_
  refine J_bipush 16 C iX10_isAbout_22 rfl ?_
  refine J_cV (As := [.int 16]) (st := []) (rc2 := (rmK 2).cells) (rs2 := (rmK 2).slots) C iX10_isAbout_24 lm_X10_266 yc_X10_eat yv_X10_eat (c_X10_eat (k := 16) rfl (by decide) (by decide) (by decide) hLt hkd htq hend hva (by omega)) (q0 := 0) rfl rfl rfl rfl (rmK_le (by omega) (by decide)) (Nat.le_of_ble_eq_true rfl) rfl rfl ?_
  rintro _ _ (⟨rfl, rfl, t_22, l_22⟩ | ⟨rfl, rfl, n_22⟩)
  · refine J_st (.int (b2i true) :: []) rfl ?_
    refine J_ifneb 32 C iX10_isAbout_27 rfl (fun h27 => ?_) (fun h27 => absurd (h27.symm.trans rfl) (by decide))
    refine J_aload_n C iX10_isAbout_32 rfl rfl ?_
    refine J_get (.int (nI ((i + 1) + 1))) 0 C iX10_isAbout_33 gf_X10_263 rfl rfl ?_
    refine J_istore_n [(3, .int (nI ((i + 1) + 1))), (0, .ref (mo 0)), (1, .ref (pn 0)), (2, .int 13)] C iX10_isAbout_36 rfl (by decide) rfl ?_
    refine J_aload_n C iX10_isAbout_37 rfl rfl ?_
    refine J_bipush 30 C iX10_isAbout_38 rfl ?_
    refine J_bipush 6 C iX10_isAbout_40 rfl ?_
    refine J_cV (As := [.int 30, .int 6]) (st := []) (rc2 := (rmK 2).cells) (rs2 := (rmK 2).slots) C iX10_isAbout_42 lm_X10_275 yc_X10_eatAs yv_X10_eatAs (c_X10_eatAs (k := 39) rfl (by decide) (by decide) (by decide) hLt hkd htq hend hva (by omega)) (q0 := 0) rfl rfl rfl rfl (rmK_le (by omega) (by decide)) (Nat.le_of_ble_eq_true rfl) rfl rfl ?_
    rintro _ _ (⟨rfl, rfl, t_23, l_23⟩ | ⟨rfl, rfl, n_23⟩)
    · refine J_st (.int (b2i true) :: []) rfl ?_
      refine J_ifneb 50 C iX10_isAbout_45 rfl (fun h45 => ?_) (fun h45 => absurd (h45.symm.trans rfl) (by decide))
      refine J_aload_n C iX10_isAbout_50 rfl rfl ?_
      refine J_get (.ref (pn 10)) 17 C iX10_isAbout_51 gf_X10_207 rfl rfl ?_
      refine J_aload_n C iX10_isAbout_54 rfl rfl ?_
      refine J_get (.int (nI s)) 17 C iX10_isAbout_55 gf_X10_272 rfl rfl ?_
      refine J_aload_n C iX10_isAbout_58 rfl rfl ?_
      refine J_get (.int (nI (((i + 1) + 1) + 1))) 0 C iX10_isAbout_59 gf_X10_263 rfl rfl ?_
      refine J_iast (wMd Z mo pl th sz ea (nI (((i + 1) + 1) + 1)) (nI d) lr dy ca kn tp kd fr (upd me ((i + 1) + 1) 6) va wo pc ht fs la kh kf kl sh dk sk ++ wPl Z pn hs ls (nI s) hn ha hh dz wh bg en od wi (upd al (nI s).toNatClampNeg (nI (((i + 1) + 1) + 1)))) 27 C iX10_isAbout_62 rfl (vp_in_nI (n := s) (by omega) (by decide)) rfl ?_
      rw [nI_clamp (n := s) (by omega)]
      refine J_iload_n C iX10_isAbout_63 rfl rfl ?_
      refine J_bipush 17 C iX10_isAbout_64 rfl ?_
      refine J_icmpne 82 C iX10_isAbout_66 rfl (fun h66 => ?_) (fun h66 => absurd h66 (by decide))
      refine J_aload_n C iX10_isAbout_82 rfl rfl ?_
      refine J_aload_n C iX10_isAbout_83 rfl rfl ?_
      refine J_iload_n C iX10_isAbout_84 rfl rfl ?_
      refine J_iload_n C iX10_isAbout_85 rfl rfl ?_
      refine J_cV (As := [.ref (pn 0), .int 13, .int (nI ((i + 1) + 1))]) (st := []) (rc2 := (rmK 2).cells) (rs2 := (rmK 2).slots) C iX10_isAbout_86 lm_X10_279 yc_X10_put yv_X10_put (c_X10_put (s := s) (by omega)) (q0 := 0) rfl rfl rfl rfl (rmK_le (by omega) (by decide)) (Nat.le_of_ble_eq_true rfl) rfl rfl ?_
      rintro _ _ ⟨rfl, rfl⟩
      refine J_st ([]) rfl ?_
      refine J_iconst 1 C iX10_isAbout_89 rfl ?_
      exact J_zret C E iX10_isAbout_90 rfl (Or.inl ⟨(((i + 1) + 1) + 1), (s + 1), upd me ((i + 1) + 1) 6, upd od s 13, upd wi s (nI ((i + 1) + 1)), upd al s (nI (((i + 1) + 1) + 1)), (tlK sq vq nm m (i + 1 + 1) (e, a)).1, (tlK sq vq nm m (i + 1 + 1) (e, a)).2, upd o s 4, upd g s (hnF nm (vq (i + 1 + 1)) m), upd j s 0, rfl, rfl, by rw [abtC, nowC_ok, takeC_ok rfl, takeC_ok t_22, hse_ok t_23, knw_ok t_23, stepC_lt (by omega)], ((Gd.name (c := 4) (p := (e, a)) (Or.inl ⟨rfl, by decide, by decide⟩) l_23 t_23 (fun r hr => upd_n (by omega))).pre (hme _ (by omega) (by omega))).pre (hme _ (by omega) (by omega))⟩)
    · refine J_st (.int (b2i false) :: []) rfl ?_
      refine J_ifneb 50 C iX10_isAbout_45 rfl (fun h45 => absurd (h45.symm.trans rfl) (by decide)) (fun h45 => ?_)
      refine J_iconst 0 C iX10_isAbout_48 rfl ?_
      exact J_zret C E iX10_isAbout_49 rfl (Or.inr ⟨((i + 1) + 1), nI d, nI s, upd me ((i + 1) + 1) 6, od, wi, al, rfl, rfl, by omega, by rw [abtC, nowC_ok, takeC_ok rfl, takeC_ok t_22]; exact (Bk.kno n_23).step⟩)
  · refine J_st (.int (b2i false) :: []) rfl ?_
    refine J_ifneb 32 C iX10_isAbout_27 rfl (fun h27 => absurd (h27.symm.trans rfl) (by decide)) (fun h27 => ?_)
    refine J_iconst 0 C iX10_isAbout_30 rfl ?_
    exact J_zret C E iX10_isAbout_31 rfl (Or.inr ⟨(i + 1), nI d, nI s, me, od, wi, al, rfl, rfl, by omega, by rw [abtC, nowC_ok, takeC_ok rfl]; exact (Bk.no n_22).knw.step⟩)

set_option maxRecDepth 100000 in
set_option maxHeartbeats 4000000 in
theorem c_X10_isAbout_14 {Z : GZ} {l : Launch} {mo pl pn : Nat → Nat} {th sz ea lr dy ca hs ls : Int32} {kn : Bool} {hn va : Nat → Int64} {ha hh dz wh bg en tp kd fr wo pc ht fs la kh kf kl sh dk sk : Nat → Int32} {Lt m : Nat} {tq : Nat → Nat} {sq : Nat → Int32} {vq nm : Nat → Int64} {i s d : Nat} {me od wi al : Nat → Int32} {e a : Int32} {o g j : Nat → Int32} (hLt : Lt ≤ 400) (hkd : ∀ i, i ≤ Lt → kd i = km (tq i)) (htq : ∀ i, tq i < 43) (hend : ∀ i, i ≤ Lt → tq i ≠ 41 → tq i ≠ 42 → i < Lt) (hva : ∀ i, i ≤ Lt → tq i = 39 ∨ tq i = 40 → va i = vq i) (hi : i ≤ Lt) (hs_ : s ≤ i) (hme : ∀ k, i ≤ k → k ≤ Lt → me k = 0) (htk : tq i = 14)  : Ct Z l yX10_isAbout cX10_isAbout 4 (some .boolean) (rmK 2) [.ref (mo 0), .ref (pn 0), .int 14] (wMd Z mo pl th sz ea (nI i) (nI d) lr dy ca kn tp kd fr me va wo pc ht fs la kh kf kl sh dk sk ++ wPl Z pn hs ls (nI s) hn ha hh dz wh bg en od wi al) (fun v w => (∃ i2 s2 me2 od2 wi2 al2 e2 a2 o2 g2 j2, v = some (.int (b2i true)) ∧ w = (wMd Z mo pl th sz ea (nI i2) (nI d) lr dy ca kn tp kd fr me2 va wo pc ht fs la kh kf kl sh dk sk ++ wPl Z pn hs ls (nI s2) hn ha hh dz wh bg en od2 wi2 al2) ∧ abtC tq sq vq nm m 5 (i, false, e, a, s, o, g, j) = (i2, false, e2, a2, s2, o2, g2, j2) ∧ Gd Lt tq sq vq nm m false i s me od wi al e a o g j i2 s2 me2 od2 wi2 al2 e2 a2 o2 g2 j2) ∨ (∃ i2 dp2 mn2 me2 od2 wi2 al2, v = some (.int (b2i false)) ∧ w = (wMd Z mo pl th sz ea (nI i2) dp2 lr dy ca kn tp kd fr me2 va wo pc ht fs la kh kf kl sh dk sk ++ wPl Z pn hs ls mn2 hn ha hh dz wh bg en od2 wi2 al2) ∧ i2 ≤ Lt ∧ Bk (abtC tq sq vq nm m 5 (i, false, e, a, s, o, g, j)) i2 (sq i2))) := by
  refine Ct.ofJ (own := RX10) (nm := "isAbout") (lv0 := [(0, .ref (mo 0)), (1, .ref (pn 0)), (2, .int 14)]) (by decide) rfl rfl (Nat.le_of_ble_eq_true rfl) rfl (fun X hXl C E => ?_)
  subst hXl
  refine J_aload_n C iX10_isAbout_0 rfl rfl ?_
  refine J_dup C iX10_isAbout_1 rfl ?_
  refine J_get (.int (nI i)) 0 C iX10_isAbout_2 gf_X10_263 rfl rfl ?_
  refine J_iconst 1 C iX10_isAbout_5 rfl ?_
  refine J_iadd C iX10_isAbout_6 ?_
  rw [show (nI i) + 1 = nI (i + 1) from nI_add _ _]
  refine J_put (wMd Z mo pl th sz ea (nI (i + 1)) (nI d) lr dy ca kn tp kd fr me va wo pc ht fs la kh kf kl sh dk sk ++ wPl Z pn hs ls (nI s) hn ha hh dz wh bg en od wi al) 0 C iX10_isAbout_7 pf_X10_263 rfl rfl rfl (Nat.le_of_ble_eq_true rfl) rfl ?_
  have hl0 : i < Lt := hend i hi (by rw [htk]; decide) (by rw [htk]; decide)
  refine J_iload_n C iX10_isAbout_10 rfl rfl ?_
  refine J_bipush 12 C iX10_isAbout_11 rfl ?_
  refine J_bipush 14 C iX10_isAbout_13 rfl ?_
  refine J_cSp (As := [.int 14, .int 12, .int 14]) (st := []) C iX10_isAbout_15 lm_X10_76 yc_X10_isIn ys_X10_isIn (c_X10_isIn (q := 14) (a := 12) (b := 14)) rfl (rmK_le (by omega) (by decide)) (Nat.le_of_ble_eq_true rfl) ⟨rfl, rfl⟩ ?_
  rintro _ rfl
  refine J_st (.int (b2i (inX 14 12 14)) :: []) rfl ?_
  refine J_ifeqb 32 C iX10_isAbout_18 rfl (fun h18 => absurd (h18.symm.trans (by decide : inX 14 12 14 = true)) (by decide)) (fun h18 => ?_)
  refine J_aload_n C iX10_isAbout_21 rfl rfl ?_
  refine J_bipush 16 C iX10_isAbout_22 rfl ?_
  refine J_cV (As := [.int 16]) (st := []) (rc2 := (rmK 2).cells) (rs2 := (rmK 2).slots) C iX10_isAbout_24 lm_X10_266 yc_X10_eat yv_X10_eat (c_X10_eat (k := 16) rfl (by decide) (by decide) (by decide) hLt hkd htq hend hva (by omega)) (q0 := 0) rfl rfl rfl rfl (rmK_le (by omega) (by decide)) (Nat.le_of_ble_eq_true rfl) rfl rfl ?_
  rintro _ _ (⟨rfl, rfl, t_24, l_24⟩ | ⟨rfl, rfl, n_24⟩)
  · refine J_st (.int (b2i true) :: []) rfl ?_
    refine J_ifneb 32 C iX10_isAbout_27 rfl (fun h27 => ?_) (fun h27 => absurd (h27.symm.trans rfl) (by decide))
    refine J_aload_n C iX10_isAbout_32 rfl rfl ?_
    refine J_get (.int (nI ((i + 1) + 1))) 0 C iX10_isAbout_33 gf_X10_263 rfl rfl ?_
    refine J_istore_n [(3, .int (nI ((i + 1) + 1))), (0, .ref (mo 0)), (1, .ref (pn 0)), (2, .int 14)] C iX10_isAbout_36 rfl (by decide) rfl ?_
    refine J_aload_n C iX10_isAbout_37 rfl rfl ?_
    refine J_bipush 30 C iX10_isAbout_38 rfl ?_
    refine J_bipush 6 C iX10_isAbout_40 rfl ?_
    refine J_cV (As := [.int 30, .int 6]) (st := []) (rc2 := (rmK 2).cells) (rs2 := (rmK 2).slots) C iX10_isAbout_42 lm_X10_275 yc_X10_eatAs yv_X10_eatAs (c_X10_eatAs (k := 39) rfl (by decide) (by decide) (by decide) hLt hkd htq hend hva (by omega)) (q0 := 0) rfl rfl rfl rfl (rmK_le (by omega) (by decide)) (Nat.le_of_ble_eq_true rfl) rfl rfl ?_
    rintro _ _ (⟨rfl, rfl, t_25, l_25⟩ | ⟨rfl, rfl, n_25⟩)
    · refine J_st (.int (b2i true) :: []) rfl ?_
      refine J_ifneb 50 C iX10_isAbout_45 rfl (fun h45 => ?_) (fun h45 => absurd (h45.symm.trans rfl) (by decide))
      refine J_aload_n C iX10_isAbout_50 rfl rfl ?_
      refine J_get (.ref (pn 10)) 17 C iX10_isAbout_51 gf_X10_207 rfl rfl ?_
      refine J_aload_n C iX10_isAbout_54 rfl rfl ?_
      refine J_get (.int (nI s)) 17 C iX10_isAbout_55 gf_X10_272 rfl rfl ?_
      refine J_aload_n C iX10_isAbout_58 rfl rfl ?_
      refine J_get (.int (nI (((i + 1) + 1) + 1))) 0 C iX10_isAbout_59 gf_X10_263 rfl rfl ?_
      refine J_iast (wMd Z mo pl th sz ea (nI (((i + 1) + 1) + 1)) (nI d) lr dy ca kn tp kd fr (upd me ((i + 1) + 1) 6) va wo pc ht fs la kh kf kl sh dk sk ++ wPl Z pn hs ls (nI s) hn ha hh dz wh bg en od wi (upd al (nI s).toNatClampNeg (nI (((i + 1) + 1) + 1)))) 27 C iX10_isAbout_62 rfl (vp_in_nI (n := s) (by omega) (by decide)) rfl ?_
      rw [nI_clamp (n := s) (by omega)]
      refine J_iload_n C iX10_isAbout_63 rfl rfl ?_
      refine J_bipush 17 C iX10_isAbout_64 rfl ?_
      refine J_icmpne 82 C iX10_isAbout_66 rfl (fun h66 => ?_) (fun h66 => absurd h66 (by decide))
      refine J_aload_n C iX10_isAbout_82 rfl rfl ?_
      refine J_aload_n C iX10_isAbout_83 rfl rfl ?_
      refine J_iload_n C iX10_isAbout_84 rfl rfl ?_
      refine J_iload_n C iX10_isAbout_85 rfl rfl ?_
      refine J_cV (As := [.ref (pn 0), .int 14, .int (nI ((i + 1) + 1))]) (st := []) (rc2 := (rmK 2).cells) (rs2 := (rmK 2).slots) C iX10_isAbout_86 lm_X10_279 yc_X10_put yv_X10_put (c_X10_put (s := s) (by omega)) (q0 := 0) rfl rfl rfl rfl (rmK_le (by omega) (by decide)) (Nat.le_of_ble_eq_true rfl) rfl rfl ?_
      rintro _ _ ⟨rfl, rfl⟩
      refine J_st ([]) rfl ?_
      refine J_iconst 1 C iX10_isAbout_89 rfl ?_
      exact J_zret C E iX10_isAbout_90 rfl (Or.inl ⟨(((i + 1) + 1) + 1), (s + 1), upd me ((i + 1) + 1) 6, upd od s 14, upd wi s (nI ((i + 1) + 1)), upd al s (nI (((i + 1) + 1) + 1)), (tlK sq vq nm m (i + 1 + 1) (e, a)).1, (tlK sq vq nm m (i + 1 + 1) (e, a)).2, upd o s 5, upd g s (hnF nm (vq (i + 1 + 1)) m), upd j s 0, rfl, rfl, by rw [abtC, nowC_ok, takeC_ok rfl, takeC_ok t_24, hse_ok t_25, knw_ok t_25, stepC_lt (by omega)], ((Gd.name (c := 5) (p := (e, a)) (Or.inl ⟨rfl, by decide, by decide⟩) l_25 t_25 (fun r hr => upd_n (by omega))).pre (hme _ (by omega) (by omega))).pre (hme _ (by omega) (by omega))⟩)
    · refine J_st (.int (b2i false) :: []) rfl ?_
      refine J_ifneb 50 C iX10_isAbout_45 rfl (fun h45 => absurd (h45.symm.trans rfl) (by decide)) (fun h45 => ?_)
      refine J_iconst 0 C iX10_isAbout_48 rfl ?_
      exact J_zret C E iX10_isAbout_49 rfl (Or.inr ⟨((i + 1) + 1), nI d, nI s, upd me ((i + 1) + 1) 6, od, wi, al, rfl, rfl, by omega, by rw [abtC, nowC_ok, takeC_ok rfl, takeC_ok t_24]; exact (Bk.kno n_25).step⟩)
  · refine J_st (.int (b2i false) :: []) rfl ?_
    refine J_ifneb 32 C iX10_isAbout_27 rfl (fun h27 => absurd (h27.symm.trans rfl) (by decide)) (fun h27 => ?_)
    refine J_iconst 0 C iX10_isAbout_30 rfl ?_
    exact J_zret C E iX10_isAbout_31 rfl (Or.inr ⟨(i + 1), nI d, nI s, me, od, wi, al, rfl, rfl, by omega, by rw [abtC, nowC_ok, takeC_ok rfl]; exact (Bk.no n_24).knw.step⟩)

set_option maxRecDepth 100000 in
set_option maxHeartbeats 4000000 in
theorem c_X10_isAbout_17 {Z : GZ} {l : Launch} {mo pl pn : Nat → Nat} {th sz ea lr dy ca hs ls : Int32} {kn : Bool} {hn va : Nat → Int64} {ha hh dz wh bg en tp kd fr wo pc ht fs la kh kf kl sh dk sk : Nat → Int32} {Lt m : Nat} {tq : Nat → Nat} {sq : Nat → Int32} {vq nm : Nat → Int64} {i s d : Nat} {me od wi al : Nat → Int32} {e a : Int32} {o g j : Nat → Int32} (hLt : Lt ≤ 400) (hkd : ∀ i, i ≤ Lt → kd i = km (tq i)) (htq : ∀ i, tq i < 43) (hend : ∀ i, i ≤ Lt → tq i ≠ 41 → tq i ≠ 42 → i < Lt) (hva : ∀ i, i ≤ Lt → tq i = 39 ∨ tq i = 40 → va i = vq i) (hi : i ≤ Lt) (hs_ : s ≤ i) (hme : ∀ k, i ≤ k → k ≤ Lt → me k = 0) (htk : tq i = 17)  : Ct Z l yX10_isAbout cX10_isAbout 4 (some .boolean) (rmK 2) [.ref (mo 0), .ref (pn 0), .int 17] (wMd Z mo pl th sz ea (nI i) (nI d) lr dy ca kn tp kd fr me va wo pc ht fs la kh kf kl sh dk sk ++ wPl Z pn hs ls (nI s) hn ha hh dz wh bg en od wi al) (fun v w => (∃ i2 s2 me2 od2 wi2 al2 e2 a2 o2 g2 j2, v = some (.int (b2i true)) ∧ w = (wMd Z mo pl th sz ea (nI i2) (nI d) lr dy ca kn tp kd fr me2 va wo pc ht fs la kh kf kl sh dk sk ++ wPl Z pn hs ls (nI s2) hn ha hh dz wh bg en od2 wi2 al2) ∧ shdC tq sq vq nm m (i, false, e, a, s, o, g, j) = (i2, false, e2, a2, s2, o2, g2, j2) ∧ Gd Lt tq sq vq nm m true i s me od wi al e a o g j i2 s2 me2 od2 wi2 al2 e2 a2 o2 g2 j2) ∨ (∃ i2 dp2 mn2 me2 od2 wi2 al2, v = some (.int (b2i false)) ∧ w = (wMd Z mo pl th sz ea (nI i2) dp2 lr dy ca kn tp kd fr me2 va wo pc ht fs la kh kf kl sh dk sk ++ wPl Z pn hs ls mn2 hn ha hh dz wh bg en od2 wi2 al2) ∧ i2 ≤ Lt ∧ Bk (shdC tq sq vq nm m (i, false, e, a, s, o, g, j)) i2 (sq i2))) := by
  refine Ct.ofJ (own := RX10) (nm := "isAbout") (lv0 := [(0, .ref (mo 0)), (1, .ref (pn 0)), (2, .int 17)]) (by decide) rfl rfl (Nat.le_of_ble_eq_true rfl) rfl (fun X hXl C E => ?_)
  subst hXl
  refine J_aload_n C iX10_isAbout_0 rfl rfl ?_
  refine J_dup C iX10_isAbout_1 rfl ?_
  refine J_get (.int (nI i)) 0 C iX10_isAbout_2 gf_X10_263 rfl rfl ?_
  refine J_iconst 1 C iX10_isAbout_5 rfl ?_
  refine J_iadd C iX10_isAbout_6 ?_
  rw [show (nI i) + 1 = nI (i + 1) from nI_add _ _]
  refine J_put (wMd Z mo pl th sz ea (nI (i + 1)) (nI d) lr dy ca kn tp kd fr me va wo pc ht fs la kh kf kl sh dk sk ++ wPl Z pn hs ls (nI s) hn ha hh dz wh bg en od wi al) 0 C iX10_isAbout_7 pf_X10_263 rfl rfl rfl (Nat.le_of_ble_eq_true rfl) rfl ?_
  have hl0 : i < Lt := hend i hi (by rw [htk]; decide) (by rw [htk]; decide)
  refine J_iload_n C iX10_isAbout_10 rfl rfl ?_
  refine J_bipush 12 C iX10_isAbout_11 rfl ?_
  refine J_bipush 14 C iX10_isAbout_13 rfl ?_
  refine J_cSp (As := [.int 17, .int 12, .int 14]) (st := []) C iX10_isAbout_15 lm_X10_76 yc_X10_isIn ys_X10_isIn (c_X10_isIn (q := 17) (a := 12) (b := 14)) rfl (rmK_le (by omega) (by decide)) (Nat.le_of_ble_eq_true rfl) ⟨rfl, rfl⟩ ?_
  rintro _ rfl
  refine J_st (.int (b2i (inX 17 12 14)) :: []) rfl ?_
  refine J_ifeqb 32 C iX10_isAbout_18 rfl (fun h18 => ?_) (fun h18 => absurd (h18.symm.trans (by decide : inX 17 12 14 = false)) (by decide))
  refine J_aload_n C iX10_isAbout_32 rfl rfl ?_
  refine J_get (.int (nI (i + 1))) 0 C iX10_isAbout_33 gf_X10_263 rfl rfl ?_
  refine J_istore_n [(3, .int (nI (i + 1))), (0, .ref (mo 0)), (1, .ref (pn 0)), (2, .int 17)] C iX10_isAbout_36 rfl (by decide) rfl ?_
  refine J_aload_n C iX10_isAbout_37 rfl rfl ?_
  refine J_bipush 30 C iX10_isAbout_38 rfl ?_
  refine J_bipush 6 C iX10_isAbout_40 rfl ?_
  refine J_cV (As := [.int 30, .int 6]) (st := []) (rc2 := (rmK 2).cells) (rs2 := (rmK 2).slots) C iX10_isAbout_42 lm_X10_275 yc_X10_eatAs yv_X10_eatAs (c_X10_eatAs (k := 39) rfl (by decide) (by decide) (by decide) hLt hkd htq hend hva (by omega)) (q0 := 0) rfl rfl rfl rfl (rmK_le (by omega) (by decide)) (Nat.le_of_ble_eq_true rfl) rfl rfl ?_
  rintro _ _ (⟨rfl, rfl, t_26, l_26⟩ | ⟨rfl, rfl, n_26⟩)
  · refine J_st (.int (b2i true) :: []) rfl ?_
    refine J_ifneb 50 C iX10_isAbout_45 rfl (fun h45 => ?_) (fun h45 => absurd (h45.symm.trans rfl) (by decide))
    refine J_aload_n C iX10_isAbout_50 rfl rfl ?_
    refine J_get (.ref (pn 10)) 17 C iX10_isAbout_51 gf_X10_207 rfl rfl ?_
    refine J_aload_n C iX10_isAbout_54 rfl rfl ?_
    refine J_get (.int (nI s)) 17 C iX10_isAbout_55 gf_X10_272 rfl rfl ?_
    refine J_aload_n C iX10_isAbout_58 rfl rfl ?_
    refine J_get (.int (nI ((i + 1) + 1))) 0 C iX10_isAbout_59 gf_X10_263 rfl rfl ?_
    refine J_iast (wMd Z mo pl th sz ea (nI ((i + 1) + 1)) (nI d) lr dy ca kn tp kd fr (upd me (i + 1) 6) va wo pc ht fs la kh kf kl sh dk sk ++ wPl Z pn hs ls (nI s) hn ha hh dz wh bg en od wi (upd al (nI s).toNatClampNeg (nI ((i + 1) + 1)))) 27 C iX10_isAbout_62 rfl (vp_in_nI (n := s) (by omega) (by decide)) rfl ?_
    rw [nI_clamp (n := s) (by omega)]
    refine J_iload_n C iX10_isAbout_63 rfl rfl ?_
    refine J_bipush 17 C iX10_isAbout_64 rfl ?_
    refine J_icmpne 82 C iX10_isAbout_66 rfl (fun h66 => absurd (by decide) h66) (fun h66 => ?_)
    refine J_aload_n C iX10_isAbout_69 rfl rfl ?_
    refine J_bipush 30 C iX10_isAbout_70 rfl ?_
    refine J_bipush 6 C iX10_isAbout_72 rfl ?_
    refine J_cV (As := [.int 30, .int 6]) (st := []) (rc2 := (rmK 2).cells) (rs2 := (rmK 2).slots) C iX10_isAbout_74 lm_X10_275 yc_X10_eatAs yv_X10_eatAs (c_X10_eatAs (k := 39) rfl (by decide) (by decide) (by decide) hLt hkd htq hend hva (by omega)) (q0 := 0) rfl rfl rfl rfl (rmK_le (by omega) (by decide)) (Nat.le_of_ble_eq_true rfl) rfl rfl ?_
    rintro _ _ (⟨rfl, rfl, t_27, l_27⟩ | ⟨rfl, rfl, n_27⟩)
    · refine J_st (.int (b2i true) :: []) rfl ?_
      refine J_ifneb 82 C iX10_isAbout_77 rfl (fun h77 => ?_) (fun h77 => absurd (h77.symm.trans rfl) (by decide))
      refine J_aload_n C iX10_isAbout_82 rfl rfl ?_
      refine J_aload_n C iX10_isAbout_83 rfl rfl ?_
      refine J_iload_n C iX10_isAbout_84 rfl rfl ?_
      refine J_iload_n C iX10_isAbout_85 rfl rfl ?_
      refine J_cV (As := [.ref (pn 0), .int 17, .int (nI (i + 1))]) (st := []) (rc2 := (rmK 2).cells) (rs2 := (rmK 2).slots) C iX10_isAbout_86 lm_X10_279 yc_X10_put yv_X10_put (c_X10_put (s := s) (by omega)) (q0 := 0) rfl rfl rfl rfl (rmK_le (by omega) (by decide)) (Nat.le_of_ble_eq_true rfl) rfl rfl ?_
      rintro _ _ ⟨rfl, rfl⟩
      refine J_st ([]) rfl ?_
      refine J_iconst 1 C iX10_isAbout_89 rfl ?_
      exact J_zret C E iX10_isAbout_90 rfl (Or.inl ⟨(((i + 1) + 1) + 1), (s + 1), upd (upd me (i + 1) 6) ((i + 1) + 1) 6, upd od s 17, upd wi s (nI (i + 1)), upd al s (nI ((i + 1) + 1)), (tlK sq vq nm m (i + 1 + 1) (tlK sq vq nm m (i + 1) (e, a))).1, (tlK sq vq nm m (i + 1 + 1) (tlK sq vq nm m (i + 1) (e, a))).2, upd o s 6, upd g s (hnF nm (vq (i + 1)) m), upd j s (hnF nm (vq (i + 1 + 1)) m), rfl, rfl, by rw [shdC, takeC_ok htk, hse_ok t_26, knw_ok t_26, hse_ok t_27, knw_ok t_27, stepC_lt (by omega)], (Gd.shd (p := (e, a)) l_27 t_26 t_27).pre (hme _ (by omega) (by omega))⟩)
    · refine J_st (.int (b2i false) :: []) rfl ?_
      refine J_ifneb 82 C iX10_isAbout_77 rfl (fun h77 => absurd (h77.symm.trans rfl) (by decide)) (fun h77 => ?_)
      refine J_iconst 0 C iX10_isAbout_80 rfl ?_
      exact J_zret C E iX10_isAbout_81 rfl (Or.inr ⟨((i + 1) + 1), nI d, nI s, upd (upd me (i + 1) 6) ((i + 1) + 1) 6, od, wi, upd al s (nI ((i + 1) + 1)), rfl, rfl, by omega, by rw [shdC, takeC_ok htk, knw_ok t_26]; exact (Bk.kno n_27).step⟩)
  · refine J_st (.int (b2i false) :: []) rfl ?_
    refine J_ifneb 50 C iX10_isAbout_45 rfl (fun h45 => absurd (h45.symm.trans rfl) (by decide)) (fun h45 => ?_)
    refine J_iconst 0 C iX10_isAbout_48 rfl ?_
    exact J_zret C E iX10_isAbout_49 rfl (Or.inr ⟨(i + 1), nI d, nI s, upd me (i + 1) 6, od, wi, al, rfl, rfl, by omega, by rw [shdC, takeC_ok htk]; exact (Bk.kno n_26).knw.step⟩)

set_option maxRecDepth 100000 in
set_option maxHeartbeats 4000000 in
theorem c_X10_isAbout_18 {Z : GZ} {l : Launch} {mo pl pn : Nat → Nat} {th sz ea lr dy ca hs ls : Int32} {kn : Bool} {hn va : Nat → Int64} {ha hh dz wh bg en tp kd fr wo pc ht fs la kh kf kl sh dk sk : Nat → Int32} {Lt m : Nat} {tq : Nat → Nat} {sq : Nat → Int32} {vq nm : Nat → Int64} {i s d : Nat} {me od wi al : Nat → Int32} {e a : Int32} {o g j : Nat → Int32} (hLt : Lt ≤ 400) (hkd : ∀ i, i ≤ Lt → kd i = km (tq i)) (htq : ∀ i, tq i < 43) (hend : ∀ i, i ≤ Lt → tq i ≠ 41 → tq i ≠ 42 → i < Lt) (hva : ∀ i, i ≤ Lt → tq i = 39 ∨ tq i = 40 → va i = vq i) (hi : i ≤ Lt) (hs_ : s ≤ i) (hme : ∀ k, i ≤ k → k ≤ Lt → me k = 0) (htk : tq i = 18)  : Ct Z l yX10_isAbout cX10_isAbout 4 (some .boolean) (rmK 2) [.ref (mo 0), .ref (pn 0), .int 18] (wMd Z mo pl th sz ea (nI i) (nI d) lr dy ca kn tp kd fr me va wo pc ht fs la kh kf kl sh dk sk ++ wPl Z pn hs ls (nI s) hn ha hh dz wh bg en od wi al) (fun v w => (∃ i2 s2 me2 od2 wi2 al2 e2 a2 o2 g2 j2, v = some (.int (b2i true)) ∧ w = (wMd Z mo pl th sz ea (nI i2) (nI d) lr dy ca kn tp kd fr me2 va wo pc ht fs la kh kf kl sh dk sk ++ wPl Z pn hs ls (nI s2) hn ha hh dz wh bg en od2 wi2 al2) ∧ drkC tq sq vq nm m (i, false, e, a, s, o, g, j) = (i2, false, e2, a2, s2, o2, g2, j2) ∧ Gd Lt tq sq vq nm m true i s me od wi al e a o g j i2 s2 me2 od2 wi2 al2 e2 a2 o2 g2 j2) ∨ (∃ i2 dp2 mn2 me2 od2 wi2 al2, v = some (.int (b2i false)) ∧ w = (wMd Z mo pl th sz ea (nI i2) dp2 lr dy ca kn tp kd fr me2 va wo pc ht fs la kh kf kl sh dk sk ++ wPl Z pn hs ls mn2 hn ha hh dz wh bg en od2 wi2 al2) ∧ i2 ≤ Lt ∧ Bk (drkC tq sq vq nm m (i, false, e, a, s, o, g, j)) i2 (sq i2))) := by
  refine Ct.ofJ (own := RX10) (nm := "isAbout") (lv0 := [(0, .ref (mo 0)), (1, .ref (pn 0)), (2, .int 18)]) (by decide) rfl rfl (Nat.le_of_ble_eq_true rfl) rfl (fun X hXl C E => ?_)
  subst hXl
  refine J_aload_n C iX10_isAbout_0 rfl rfl ?_
  refine J_dup C iX10_isAbout_1 rfl ?_
  refine J_get (.int (nI i)) 0 C iX10_isAbout_2 gf_X10_263 rfl rfl ?_
  refine J_iconst 1 C iX10_isAbout_5 rfl ?_
  refine J_iadd C iX10_isAbout_6 ?_
  rw [show (nI i) + 1 = nI (i + 1) from nI_add _ _]
  refine J_put (wMd Z mo pl th sz ea (nI (i + 1)) (nI d) lr dy ca kn tp kd fr me va wo pc ht fs la kh kf kl sh dk sk ++ wPl Z pn hs ls (nI s) hn ha hh dz wh bg en od wi al) 0 C iX10_isAbout_7 pf_X10_263 rfl rfl rfl (Nat.le_of_ble_eq_true rfl) rfl ?_
  have hl0 : i < Lt := hend i hi (by rw [htk]; decide) (by rw [htk]; decide)
  refine J_iload_n C iX10_isAbout_10 rfl rfl ?_
  refine J_bipush 12 C iX10_isAbout_11 rfl ?_
  refine J_bipush 14 C iX10_isAbout_13 rfl ?_
  refine J_cSp (As := [.int 18, .int 12, .int 14]) (st := []) C iX10_isAbout_15 lm_X10_76 yc_X10_isIn ys_X10_isIn (c_X10_isIn (q := 18) (a := 12) (b := 14)) rfl (rmK_le (by omega) (by decide)) (Nat.le_of_ble_eq_true rfl) ⟨rfl, rfl⟩ ?_
  rintro _ rfl
  refine J_st (.int (b2i (inX 18 12 14)) :: []) rfl ?_
  refine J_ifeqb 32 C iX10_isAbout_18 rfl (fun h18 => ?_) (fun h18 => absurd (h18.symm.trans (by decide : inX 18 12 14 = false)) (by decide))
  refine J_aload_n C iX10_isAbout_32 rfl rfl ?_
  refine J_get (.int (nI (i + 1))) 0 C iX10_isAbout_33 gf_X10_263 rfl rfl ?_
  refine J_istore_n [(3, .int (nI (i + 1))), (0, .ref (mo 0)), (1, .ref (pn 0)), (2, .int 18)] C iX10_isAbout_36 rfl (by decide) rfl ?_
  refine J_aload_n C iX10_isAbout_37 rfl rfl ?_
  refine J_bipush 30 C iX10_isAbout_38 rfl ?_
  refine J_bipush 6 C iX10_isAbout_40 rfl ?_
  refine J_cV (As := [.int 30, .int 6]) (st := []) (rc2 := (rmK 2).cells) (rs2 := (rmK 2).slots) C iX10_isAbout_42 lm_X10_275 yc_X10_eatAs yv_X10_eatAs (c_X10_eatAs (k := 39) rfl (by decide) (by decide) (by decide) hLt hkd htq hend hva (by omega)) (q0 := 0) rfl rfl rfl rfl (rmK_le (by omega) (by decide)) (Nat.le_of_ble_eq_true rfl) rfl rfl ?_
  rintro _ _ (⟨rfl, rfl, t_28, l_28⟩ | ⟨rfl, rfl, n_28⟩)
  · refine J_st (.int (b2i true) :: []) rfl ?_
    refine J_ifneb 50 C iX10_isAbout_45 rfl (fun h45 => ?_) (fun h45 => absurd (h45.symm.trans rfl) (by decide))
    refine J_aload_n C iX10_isAbout_50 rfl rfl ?_
    refine J_get (.ref (pn 10)) 17 C iX10_isAbout_51 gf_X10_207 rfl rfl ?_
    refine J_aload_n C iX10_isAbout_54 rfl rfl ?_
    refine J_get (.int (nI s)) 17 C iX10_isAbout_55 gf_X10_272 rfl rfl ?_
    refine J_aload_n C iX10_isAbout_58 rfl rfl ?_
    refine J_get (.int (nI ((i + 1) + 1))) 0 C iX10_isAbout_59 gf_X10_263 rfl rfl ?_
    refine J_iast (wMd Z mo pl th sz ea (nI ((i + 1) + 1)) (nI d) lr dy ca kn tp kd fr (upd me (i + 1) 6) va wo pc ht fs la kh kf kl sh dk sk ++ wPl Z pn hs ls (nI s) hn ha hh dz wh bg en od wi (upd al (nI s).toNatClampNeg (nI ((i + 1) + 1)))) 27 C iX10_isAbout_62 rfl (vp_in_nI (n := s) (by omega) (by decide)) rfl ?_
    rw [nI_clamp (n := s) (by omega)]
    refine J_iload_n C iX10_isAbout_63 rfl rfl ?_
    refine J_bipush 17 C iX10_isAbout_64 rfl ?_
    refine J_icmpne 82 C iX10_isAbout_66 rfl (fun h66 => ?_) (fun h66 => absurd h66 (by decide))
    refine J_aload_n C iX10_isAbout_82 rfl rfl ?_
    refine J_aload_n C iX10_isAbout_83 rfl rfl ?_
    refine J_iload_n C iX10_isAbout_84 rfl rfl ?_
    refine J_iload_n C iX10_isAbout_85 rfl rfl ?_
    refine J_cV (As := [.ref (pn 0), .int 18, .int (nI (i + 1))]) (st := []) (rc2 := (rmK 2).cells) (rs2 := (rmK 2).slots) C iX10_isAbout_86 lm_X10_279 yc_X10_put yv_X10_put (c_X10_put (s := s) (by omega)) (q0 := 0) rfl rfl rfl rfl (rmK_le (by omega) (by decide)) (Nat.le_of_ble_eq_true rfl) rfl rfl ?_
    rintro _ _ ⟨rfl, rfl⟩
    refine J_st ([]) rfl ?_
    refine J_iconst 1 C iX10_isAbout_89 rfl ?_
    exact J_zret C E iX10_isAbout_90 rfl (Or.inl ⟨((i + 1) + 1), (s + 1), upd me (i + 1) 6, upd od s 18, upd wi s (nI (i + 1)), upd al s (nI ((i + 1) + 1)), (tlK sq vq nm m (i + 1) (e, a)).1, (tlK sq vq nm m (i + 1) (e, a)).2, upd o s 7, upd g s (hnF nm (vq (i + 1)) m), upd j s 0, rfl, rfl, by rw [drkC, takeC_ok htk, hse_ok t_28, knw_ok t_28, stepC_lt (by omega)], (Gd.name (c := 7) (p := (e, a)) (Or.inr ⟨rfl, rfl⟩) l_28 t_28 (fun r hr => upd_n (by omega))).pre (hme _ (by omega) (by omega))⟩)
  · refine J_st (.int (b2i false) :: []) rfl ?_
    refine J_ifneb 50 C iX10_isAbout_45 rfl (fun h45 => absurd (h45.symm.trans rfl) (by decide)) (fun h45 => ?_)
    refine J_iconst 0 C iX10_isAbout_48 rfl ?_
    exact J_zret C E iX10_isAbout_49 rfl (Or.inr ⟨(i + 1), nI d, nI s, upd me (i + 1) 6, od, wi, al, rfl, rfl, by omega, by rw [drkC, takeC_ok htk]; exact (Bk.kno n_28).step⟩)

set_option maxRecDepth 100000 in
set_option maxHeartbeats 4000000 in
theorem c_X10_isOfTwo_22 {Z : GZ} {l : Launch} {mo pl pn : Nat → Nat} {th sz ea lr dy ca hs ls : Int32} {kn : Bool} {hn va : Nat → Int64} {ha hh dz wh bg en tp kd fr wo pc ht fs la kh kf kl sh dk sk : Nat → Int32} {Lt m : Nat} {tq : Nat → Nat} {sq : Nat → Int32} {vq nm : Nat → Int64} {vv : PS → PS} (hfv : Fro vv) {i s : Nat} {me od wi al : Nat → Int32} {e a : Int32} {o g j : Nat → Int32} {d : Nat} (hLt : Lt ≤ 400) (hkd : ∀ i, i ≤ Lt → kd i = km (tq i)) (htq : ∀ i, tq i < 43) (hend : ∀ i, i ≤ Lt → tq i ≠ 41 → tq i ≠ 42 → i < Lt) (hva : ∀ i, i ≤ Lt → tq i = 39 ∨ tq i = 40 → va i = vq i) (hd : d ≤ 8) (hsum : d < 8 → ∀ {i s : Nat} {me od wi al : Nat → Int32} {e a : Int32} {o g j : Nat → Int32}, i ≤ Lt → s ≤ i → (∀ k, i ≤ k → k ≤ Lt → me k = 0) → Ct Z l yX10_isSum cX10_isSum 3 (some .boolean) (rmK (34 - 4 * d)) [.ref (mo 0), .ref (pn 0)] (wMd Z mo pl th sz ea (nI i) (nI (d + 1)) lr dy ca kn tp kd fr me va wo pc ht fs la kh kf kl sh dk sk ++ wPl Z pn hs ls (nI s) hn ha hh dz wh bg en od wi al) (fun v w => (∃ i2 s2 me2 od2 wi2 al2 e2 a2 o2 g2 j2, v = some (.int (b2i true)) ∧ w = (wMd Z mo pl th sz ea (nI i2) (nI (d + 1)) lr dy ca kn tp kd fr me2 va wo pc ht fs la kh kf kl sh dk sk ++ wPl Z pn hs ls (nI s2) hn ha hh dz wh bg en od2 wi2 al2) ∧ sumC tq sq vv (i, false, e, a, s, o, g, j) = (i2, false, e2, a2, s2, o2, g2, j2) ∧ Gd Lt tq sq vq nm m false i s me od wi al e a o g j i2 s2 me2 od2 wi2 al2 e2 a2 o2 g2 j2) ∨ (∃ i2 dp2 mn2 me2 od2 wi2 al2, v = some (.int (b2i false)) ∧ w = (wMd Z mo pl th sz ea (nI i2) dp2 lr dy ca kn tp kd fr me2 va wo pc ht fs la kh kf kl sh dk sk ++ wPl Z pn hs ls mn2 hn ha hh dz wh bg en od2 wi2 al2) ∧ i2 ≤ Lt ∧ Bk (sumC tq sq vv (i, false, e, a, s, o, g, j)) i2 (sq i2)))) (hi : i ≤ Lt) (hs_ : s ≤ i) (hme : ∀ k, i ≤ k → k ≤ Lt → me k = 0) (htk : tq i = 22)  : Ct Z l yX10_isOfTwo cX10_isOfTwo 3 (some .boolean) (rmK (35 - 4 * d)) [.ref (mo 0), .ref (pn 0), .int 22] (wMd Z mo pl th sz ea (nI i) (nI d) lr dy ca kn tp kd fr me va wo pc ht fs la kh kf kl sh dk sk ++ wPl Z pn hs ls (nI s) hn ha hh dz wh bg en od wi al) (fun v w => (∃ i2 s2 me2 od2 wi2 al2 e2 a2 o2 g2 j2, v = some (.int (b2i true)) ∧ w = (wMd Z mo pl th sz ea (nI i2) (nI d) lr dy ca kn tp kd fr me2 va wo pc ht fs la kh kf kl sh dk sk ++ wPl Z pn hs ls (nI s2) hn ha hh dz wh bg en od2 wi2 al2) ∧ choC tq sq d vv (i, false, e, a, s, o, g, j) = (i2, false, e2, a2, s2, o2, g2, j2) ∧ Gd Lt tq sq vq nm m false i s me od wi al e a o g j i2 s2 me2 od2 wi2 al2 e2 a2 o2 g2 j2) ∨ (∃ i2 dp2 mn2 me2 od2 wi2 al2, v = some (.int (b2i false)) ∧ w = (wMd Z mo pl th sz ea (nI i2) dp2 lr dy ca kn tp kd fr me2 va wo pc ht fs la kh kf kl sh dk sk ++ wPl Z pn hs ls mn2 hn ha hh dz wh bg en od2 wi2 al2) ∧ i2 ≤ Lt ∧ Bk (choC tq sq d vv (i, false, e, a, s, o, g, j)) i2 (sq i2))) := by
  refine Ct.ofJ (own := RX10) (nm := "isOfTwo") (lv0 := [(0, .ref (mo 0)), (1, .ref (pn 0)), (2, .int 22)]) (by decide) rfl rfl (Nat.le_of_ble_eq_true rfl) rfl (fun X hXl C E => ?_)
  subst hXl
  refine J_aload_n C iX10_isOfTwo_0 rfl rfl ?_
  refine J_dup C iX10_isOfTwo_1 rfl ?_
  refine J_get (.int (nI i)) 0 C iX10_isOfTwo_2 gf_X10_263 rfl rfl ?_
  refine J_iconst 1 C iX10_isOfTwo_5 rfl ?_
  refine J_iadd C iX10_isOfTwo_6 ?_
  rw [show (nI i) + 1 = nI (i + 1) from nI_add _ _]
  refine J_put (wMd Z mo pl th sz ea (nI (i + 1)) (nI d) lr dy ca kn tp kd fr me va wo pc ht fs la kh kf kl sh dk sk ++ wPl Z pn hs ls (nI s) hn ha hh dz wh bg en od wi al) 0 C iX10_isOfTwo_7 pf_X10_263 rfl rfl rfl (Nat.le_of_ble_eq_true rfl) rfl ?_
  have hl0 : i < Lt := hend i hi (by rw [htk]; decide) (by rw [htk]; decide)
  refine J_aload_n C iX10_isOfTwo_10 rfl rfl ?_
  refine J_bipush 40 C iX10_isOfTwo_11 rfl ?_
  refine J_cV (As := [.int 40]) (st := []) (rc2 := (rmK (35 - 4 * d)).cells) (rs2 := (rmK (35 - 4 * d)).slots) C iX10_isOfTwo_13 lm_X10_290 yc_X10_deeper yv_X10_deeper (c_X10_deeper (k := 24) rfl (by decide) (by decide) (by decide) hLt hkd htq hend hva (by omega) (by omega)) (q0 := 0) rfl rfl rfl rfl (rmK_le (by omega) (by decide)) (Nat.le_of_ble_eq_true rfl) rfl rfl ?_
  rintro _ _ (⟨rfl, rfl, t_29, l_29, d_29⟩ | ⟨rfl, rfl, n_29⟩)
  · refine J_st (.int (b2i true) :: []) rfl ?_
    refine J_ifeqb 53 C iX10_isOfTwo_16 rfl (fun h16 => absurd (h16.symm.trans rfl) (by decide)) (fun h16 => ?_)
    refine J_aload_n C iX10_isOfTwo_19 rfl rfl ?_
    refine J_aload_n C iX10_isOfTwo_20 rfl rfl ?_
    refine J_cV (As := [.ref (pn 0)]) (st := []) (rc2 := (rmK (35 - 4 * d)).cells) (rs2 := (rmK (35 - 4 * d)).slots) C iX10_isOfTwo_21 lm_X10_306 yc_X10_isSum yv_X10_isSum (hsum (e := e) (a := a) (o := o) (g := g) (j := j) d_29 (by omega) (by omega) (fun k h1 h2 => hme k (by omega) h2)) (q0 := 0) rfl rfl rfl rfl (rmK_le (by omega) (by decide)) (Nat.le_of_ble_eq_true rfl) rfl rfl ?_
    rintro _ _ (⟨i30, s30, me30, od30, wi30, al30, e30, a30, o30, g30, j30, rfl, rfl, R30, G30⟩ | ⟨i30, dp30, mn30, me30, od30, wi30, al30, rfl, rfl, hL30, B30⟩)
    · refine J_st (.int (b2i true) :: []) rfl ?_
      have hil30 := G30.il
      have hiL30 := G30.iL
      have hsl30 := G30.sl
      have hss30 := G30.ss
      have hme30 : ∀ k, i30 ≤ k → k ≤ Lt → me30 k = 0 := fun k h1 h2 => (G30.fm k (Or.inr h1)).trans (hme k (by omega) h2)
      refine J_ifeqb 53 C iX10_isOfTwo_24 rfl (fun h24 => absurd (h24.symm.trans rfl) (by decide)) (fun h24 => ?_)
      refine J_aload_n C iX10_isOfTwo_27 rfl rfl ?_
      refine J_bipush 44 C iX10_isOfTwo_28 rfl ?_
      refine J_cV (As := [.int 44]) (st := []) (rc2 := (rmK (35 - 4 * d)).cells) (rs2 := (rmK (35 - 4 * d)).slots) C iX10_isOfTwo_30 lm_X10_266 yc_X10_eat yv_X10_eat (c_X10_eat (k := 29) rfl (by decide) (by decide) (by decide) hLt hkd htq hend hva (by omega)) (q0 := 0) rfl rfl rfl rfl (rmK_le (by omega) (by decide)) (Nat.le_of_ble_eq_true rfl) rfl rfl ?_
      rintro _ _ (⟨rfl, rfl, t_31, l_31⟩ | ⟨rfl, rfl, n_31⟩)
      · refine J_st (.int (b2i true) :: []) rfl ?_
        refine J_ifeqb 53 C iX10_isOfTwo_33 rfl (fun h33 => absurd (h33.symm.trans rfl) (by decide)) (fun h33 => ?_)
        refine J_aload_n C iX10_isOfTwo_36 rfl rfl ?_
        refine J_aload_n C iX10_isOfTwo_37 rfl rfl ?_
        refine J_cV (As := [.ref (pn 0)]) (st := []) (rc2 := (rmK (35 - 4 * d)).cells) (rs2 := (rmK (35 - 4 * d)).slots) C iX10_isOfTwo_38 lm_X10_306 yc_X10_isSum yv_X10_isSum (hsum (e := e30) (a := a30) (o := o30) (g := g30) (j := j30) d_29 (by omega) (by omega) (fun k h1 h2 => hme30 k (by omega) h2)) (q0 := 0) rfl rfl rfl rfl (rmK_le (by omega) (by decide)) (Nat.le_of_ble_eq_true rfl) rfl rfl ?_
        rintro _ _ (⟨i32, s32, me32, od32, wi32, al32, e32, a32, o32, g32, j32, rfl, rfl, R32, G32⟩ | ⟨i32, dp32, mn32, me32, od32, wi32, al32, rfl, rfl, hL32, B32⟩)
        · refine J_st (.int (b2i true) :: []) rfl ?_
          have hil32 := G32.il
          have hiL32 := G32.iL
          have hsl32 := G32.sl
          have hss32 := G32.ss
          have hme32 : ∀ k, i32 ≤ k → k ≤ Lt → me32 k = 0 := fun k h1 h2 => (G32.fm k (Or.inr h1)).trans (hme30 k (by omega) h2)
          refine J_ifeqb 53 C iX10_isOfTwo_41 rfl (fun h41 => absurd (h41.symm.trans rfl) (by decide)) (fun h41 => ?_)
          refine J_aload_n C iX10_isOfTwo_44 rfl rfl ?_
          refine J_bipush 41 C iX10_isOfTwo_45 rfl ?_
          refine J_cV (As := [.int 41]) (st := []) (rc2 := (rmK (35 - 4 * d)).cells) (rs2 := (rmK (35 - 4 * d)).slots) C iX10_isOfTwo_47 lm_X10_296 yc_X10_closes yv_X10_closes (c_X10_closes (d := d) (k := 25) rfl (by decide) (by decide) (by decide) hLt hkd htq hend hva (by omega)) (q0 := 0) rfl rfl rfl rfl (rmK_le (by omega) (by decide)) (Nat.le_of_ble_eq_true rfl) rfl rfl ?_
          rintro _ _ (⟨rfl, rfl, t_33, l_33⟩ | ⟨rfl, rfl, n_33⟩)
          · refine J_st (.int (b2i true) :: []) rfl ?_
            refine J_ifneb 55 C iX10_isOfTwo_50 rfl (fun h50 => ?_) (fun h50 => absurd (h50.symm.trans rfl) (by decide))
            refine J_aload_n C iX10_isOfTwo_55 rfl rfl ?_
            refine J_aload_n C iX10_isOfTwo_56 rfl rfl ?_
            refine J_iload_n C iX10_isOfTwo_57 rfl rfl ?_
            refine J_iconst 0 C iX10_isOfTwo_58 rfl ?_
            refine J_cV (As := [.ref (pn 0), .int 22, .int 0]) (st := []) (rc2 := (rmK (35 - 4 * d)).cells) (rs2 := (rmK (35 - 4 * d)).slots) C iX10_isOfTwo_59 lm_X10_279 yc_X10_put yv_X10_put (c_X10_put (s := s32) (by omega)) (q0 := 0) rfl rfl rfl rfl (rmK_le (by omega) (by decide)) (Nat.le_of_ble_eq_true rfl) rfl rfl ?_
            rintro _ _ ⟨rfl, rfl⟩
            refine J_st ([]) rfl ?_
            refine J_iconst 1 C iX10_isOfTwo_62 rfl ?_
            exact J_zret C E iX10_isOfTwo_63 rfl (Or.inl ⟨(i32 + 1), (s32 + 1), me32, upd od32 s32 22, upd wi32 s32 0, al32, e32, a32, upd o32 s32 14, upd g32 s32 0, upd j32 s32 0, rfl, rfl, by rw [choC, nowC_ok, htk, takeC_ok htk, deep_ok d_29 t_29, if_neg brk_f, R30, takeC_ok t_31, R32, takeC_ok t_33, stepC_lt (by omega)]; rfl, ((((G30.bin (c := 14) G32 (hme _ (by omega) (by omega)) (Or.inl ⟨rfl, rfl, by decide, by decide⟩)).post l_33 (hme _ (by omega) (by omega))).pre (hme _ (by omega) (by omega))).pre (hme _ (by omega) (by omega)))⟩)
          · refine J_st (.int (b2i false) :: []) rfl ?_
            refine J_ifneb 55 C iX10_isOfTwo_50 rfl (fun h50 => absurd (h50.symm.trans rfl) (by decide)) (fun h50 => ?_)
            refine J_iconst 0 C iX10_isOfTwo_53 rfl ?_
            exact J_zret C E iX10_isOfTwo_54 rfl (Or.inr ⟨i32, nI (d + 1), nI s32, me32, od32, wi32, al32, rfl, rfl, by omega, by rw [choC, nowC_ok, htk, takeC_ok htk, deep_ok d_29 t_29, if_neg brk_f, R30, takeC_ok t_31, R32]; exact (Bk.no n_33).step⟩)
        · refine J_st (.int (b2i false) :: []) rfl ?_
          refine J_ifeqb 53 C iX10_isOfTwo_41 rfl (fun h41 => ?_) (fun h41 => absurd (h41.symm.trans rfl) (by decide))
          refine J_iconst 0 C iX10_isOfTwo_53 rfl ?_
          exact J_zret C E iX10_isOfTwo_54 rfl (Or.inr ⟨i32, dp32, mn32, me32, od32, wi32, al32, rfl, rfl, by omega, by rw [choC, nowC_ok, htk, takeC_ok htk, deep_ok d_29 t_29, if_neg brk_f, R30, takeC_ok t_31]; exact (B32.take (by decide)).step⟩)
      · refine J_st (.int (b2i false) :: []) rfl ?_
        refine J_ifeqb 53 C iX10_isOfTwo_33 rfl (fun h33 => ?_) (fun h33 => absurd (h33.symm.trans rfl) (by decide))
        refine J_iconst 0 C iX10_isOfTwo_53 rfl ?_
        exact J_zret C E iX10_isOfTwo_54 rfl (Or.inr ⟨i30, nI (d + 1), nI s30, me30, od30, wi30, al30, rfl, rfl, by omega, by rw [choC, nowC_ok, htk, takeC_ok htk, deep_ok d_29 t_29, if_neg brk_f, R30]; exact (((Bk.no n_31).app (fro_sum hfv)).take (by decide)).step⟩)
    · refine J_st (.int (b2i false) :: []) rfl ?_
      refine J_ifeqb 53 C iX10_isOfTwo_24 rfl (fun h24 => ?_) (fun h24 => absurd (h24.symm.trans rfl) (by decide))
      refine J_iconst 0 C iX10_isOfTwo_53 rfl ?_
      exact J_zret C E iX10_isOfTwo_54 rfl (Or.inr ⟨i30, dp30, mn30, me30, od30, wi30, al30, rfl, rfl, by omega, by rw [choC, nowC_ok, htk, takeC_ok htk, deep_ok d_29 t_29, if_neg brk_f]; exact (((B30.take (by decide)).app (fro_sum hfv)).take (by decide)).step⟩)
  · refine J_st (.int (b2i false) :: []) rfl ?_
    refine J_ifeqb 53 C iX10_isOfTwo_16 rfl (fun h16 => ?_) (fun h16 => absurd (h16.symm.trans rfl) (by decide))
    refine J_iconst 0 C iX10_isOfTwo_53 rfl ?_
    exact J_zret C E iX10_isOfTwo_54 rfl (Or.inr ⟨(i + 1), nI d, nI s, me, od, wi, al, rfl, rfl, by omega, by rw [choC, nowC_ok, htk, takeC_ok htk, if_pos (Bk.deep n_29).brk]; exact Bk.deep n_29⟩)

set_option maxRecDepth 100000 in
set_option maxHeartbeats 4000000 in
theorem c_X10_isOfTwo_23 {Z : GZ} {l : Launch} {mo pl pn : Nat → Nat} {th sz ea lr dy ca hs ls : Int32} {kn : Bool} {hn va : Nat → Int64} {ha hh dz wh bg en tp kd fr wo pc ht fs la kh kf kl sh dk sk : Nat → Int32} {Lt m : Nat} {tq : Nat → Nat} {sq : Nat → Int32} {vq nm : Nat → Int64} {vv : PS → PS} (hfv : Fro vv) {i s : Nat} {me od wi al : Nat → Int32} {e a : Int32} {o g j : Nat → Int32} {d : Nat} (hLt : Lt ≤ 400) (hkd : ∀ i, i ≤ Lt → kd i = km (tq i)) (htq : ∀ i, tq i < 43) (hend : ∀ i, i ≤ Lt → tq i ≠ 41 → tq i ≠ 42 → i < Lt) (hva : ∀ i, i ≤ Lt → tq i = 39 ∨ tq i = 40 → va i = vq i) (hd : d ≤ 8) (hsum : d < 8 → ∀ {i s : Nat} {me od wi al : Nat → Int32} {e a : Int32} {o g j : Nat → Int32}, i ≤ Lt → s ≤ i → (∀ k, i ≤ k → k ≤ Lt → me k = 0) → Ct Z l yX10_isSum cX10_isSum 3 (some .boolean) (rmK (34 - 4 * d)) [.ref (mo 0), .ref (pn 0)] (wMd Z mo pl th sz ea (nI i) (nI (d + 1)) lr dy ca kn tp kd fr me va wo pc ht fs la kh kf kl sh dk sk ++ wPl Z pn hs ls (nI s) hn ha hh dz wh bg en od wi al) (fun v w => (∃ i2 s2 me2 od2 wi2 al2 e2 a2 o2 g2 j2, v = some (.int (b2i true)) ∧ w = (wMd Z mo pl th sz ea (nI i2) (nI (d + 1)) lr dy ca kn tp kd fr me2 va wo pc ht fs la kh kf kl sh dk sk ++ wPl Z pn hs ls (nI s2) hn ha hh dz wh bg en od2 wi2 al2) ∧ sumC tq sq vv (i, false, e, a, s, o, g, j) = (i2, false, e2, a2, s2, o2, g2, j2) ∧ Gd Lt tq sq vq nm m false i s me od wi al e a o g j i2 s2 me2 od2 wi2 al2 e2 a2 o2 g2 j2) ∨ (∃ i2 dp2 mn2 me2 od2 wi2 al2, v = some (.int (b2i false)) ∧ w = (wMd Z mo pl th sz ea (nI i2) dp2 lr dy ca kn tp kd fr me2 va wo pc ht fs la kh kf kl sh dk sk ++ wPl Z pn hs ls mn2 hn ha hh dz wh bg en od2 wi2 al2) ∧ i2 ≤ Lt ∧ Bk (sumC tq sq vv (i, false, e, a, s, o, g, j)) i2 (sq i2)))) (hi : i ≤ Lt) (hs_ : s ≤ i) (hme : ∀ k, i ≤ k → k ≤ Lt → me k = 0) (htk : tq i = 23)  : Ct Z l yX10_isOfTwo cX10_isOfTwo 3 (some .boolean) (rmK (35 - 4 * d)) [.ref (mo 0), .ref (pn 0), .int 23] (wMd Z mo pl th sz ea (nI i) (nI d) lr dy ca kn tp kd fr me va wo pc ht fs la kh kf kl sh dk sk ++ wPl Z pn hs ls (nI s) hn ha hh dz wh bg en od wi al) (fun v w => (∃ i2 s2 me2 od2 wi2 al2 e2 a2 o2 g2 j2, v = some (.int (b2i true)) ∧ w = (wMd Z mo pl th sz ea (nI i2) (nI d) lr dy ca kn tp kd fr me2 va wo pc ht fs la kh kf kl sh dk sk ++ wPl Z pn hs ls (nI s2) hn ha hh dz wh bg en od2 wi2 al2) ∧ choC tq sq d vv (i, false, e, a, s, o, g, j) = (i2, false, e2, a2, s2, o2, g2, j2) ∧ Gd Lt tq sq vq nm m false i s me od wi al e a o g j i2 s2 me2 od2 wi2 al2 e2 a2 o2 g2 j2) ∨ (∃ i2 dp2 mn2 me2 od2 wi2 al2, v = some (.int (b2i false)) ∧ w = (wMd Z mo pl th sz ea (nI i2) dp2 lr dy ca kn tp kd fr me2 va wo pc ht fs la kh kf kl sh dk sk ++ wPl Z pn hs ls mn2 hn ha hh dz wh bg en od2 wi2 al2) ∧ i2 ≤ Lt ∧ Bk (choC tq sq d vv (i, false, e, a, s, o, g, j)) i2 (sq i2))) := by
  refine Ct.ofJ (own := RX10) (nm := "isOfTwo") (lv0 := [(0, .ref (mo 0)), (1, .ref (pn 0)), (2, .int 23)]) (by decide) rfl rfl (Nat.le_of_ble_eq_true rfl) rfl (fun X hXl C E => ?_)
  subst hXl
  refine J_aload_n C iX10_isOfTwo_0 rfl rfl ?_
  refine J_dup C iX10_isOfTwo_1 rfl ?_
  refine J_get (.int (nI i)) 0 C iX10_isOfTwo_2 gf_X10_263 rfl rfl ?_
  refine J_iconst 1 C iX10_isOfTwo_5 rfl ?_
  refine J_iadd C iX10_isOfTwo_6 ?_
  rw [show (nI i) + 1 = nI (i + 1) from nI_add _ _]
  refine J_put (wMd Z mo pl th sz ea (nI (i + 1)) (nI d) lr dy ca kn tp kd fr me va wo pc ht fs la kh kf kl sh dk sk ++ wPl Z pn hs ls (nI s) hn ha hh dz wh bg en od wi al) 0 C iX10_isOfTwo_7 pf_X10_263 rfl rfl rfl (Nat.le_of_ble_eq_true rfl) rfl ?_
  have hl0 : i < Lt := hend i hi (by rw [htk]; decide) (by rw [htk]; decide)
  refine J_aload_n C iX10_isOfTwo_10 rfl rfl ?_
  refine J_bipush 40 C iX10_isOfTwo_11 rfl ?_
  refine J_cV (As := [.int 40]) (st := []) (rc2 := (rmK (35 - 4 * d)).cells) (rs2 := (rmK (35 - 4 * d)).slots) C iX10_isOfTwo_13 lm_X10_290 yc_X10_deeper yv_X10_deeper (c_X10_deeper (k := 24) rfl (by decide) (by decide) (by decide) hLt hkd htq hend hva (by omega) (by omega)) (q0 := 0) rfl rfl rfl rfl (rmK_le (by omega) (by decide)) (Nat.le_of_ble_eq_true rfl) rfl rfl ?_
  rintro _ _ (⟨rfl, rfl, t_34, l_34, d_34⟩ | ⟨rfl, rfl, n_34⟩)
  · refine J_st (.int (b2i true) :: []) rfl ?_
    refine J_ifeqb 53 C iX10_isOfTwo_16 rfl (fun h16 => absurd (h16.symm.trans rfl) (by decide)) (fun h16 => ?_)
    refine J_aload_n C iX10_isOfTwo_19 rfl rfl ?_
    refine J_aload_n C iX10_isOfTwo_20 rfl rfl ?_
    refine J_cV (As := [.ref (pn 0)]) (st := []) (rc2 := (rmK (35 - 4 * d)).cells) (rs2 := (rmK (35 - 4 * d)).slots) C iX10_isOfTwo_21 lm_X10_306 yc_X10_isSum yv_X10_isSum (hsum (e := e) (a := a) (o := o) (g := g) (j := j) d_34 (by omega) (by omega) (fun k h1 h2 => hme k (by omega) h2)) (q0 := 0) rfl rfl rfl rfl (rmK_le (by omega) (by decide)) (Nat.le_of_ble_eq_true rfl) rfl rfl ?_
    rintro _ _ (⟨i35, s35, me35, od35, wi35, al35, e35, a35, o35, g35, j35, rfl, rfl, R35, G35⟩ | ⟨i35, dp35, mn35, me35, od35, wi35, al35, rfl, rfl, hL35, B35⟩)
    · refine J_st (.int (b2i true) :: []) rfl ?_
      have hil35 := G35.il
      have hiL35 := G35.iL
      have hsl35 := G35.sl
      have hss35 := G35.ss
      have hme35 : ∀ k, i35 ≤ k → k ≤ Lt → me35 k = 0 := fun k h1 h2 => (G35.fm k (Or.inr h1)).trans (hme k (by omega) h2)
      refine J_ifeqb 53 C iX10_isOfTwo_24 rfl (fun h24 => absurd (h24.symm.trans rfl) (by decide)) (fun h24 => ?_)
      refine J_aload_n C iX10_isOfTwo_27 rfl rfl ?_
      refine J_bipush 44 C iX10_isOfTwo_28 rfl ?_
      refine J_cV (As := [.int 44]) (st := []) (rc2 := (rmK (35 - 4 * d)).cells) (rs2 := (rmK (35 - 4 * d)).slots) C iX10_isOfTwo_30 lm_X10_266 yc_X10_eat yv_X10_eat (c_X10_eat (k := 29) rfl (by decide) (by decide) (by decide) hLt hkd htq hend hva (by omega)) (q0 := 0) rfl rfl rfl rfl (rmK_le (by omega) (by decide)) (Nat.le_of_ble_eq_true rfl) rfl rfl ?_
      rintro _ _ (⟨rfl, rfl, t_36, l_36⟩ | ⟨rfl, rfl, n_36⟩)
      · refine J_st (.int (b2i true) :: []) rfl ?_
        refine J_ifeqb 53 C iX10_isOfTwo_33 rfl (fun h33 => absurd (h33.symm.trans rfl) (by decide)) (fun h33 => ?_)
        refine J_aload_n C iX10_isOfTwo_36 rfl rfl ?_
        refine J_aload_n C iX10_isOfTwo_37 rfl rfl ?_
        refine J_cV (As := [.ref (pn 0)]) (st := []) (rc2 := (rmK (35 - 4 * d)).cells) (rs2 := (rmK (35 - 4 * d)).slots) C iX10_isOfTwo_38 lm_X10_306 yc_X10_isSum yv_X10_isSum (hsum (e := e35) (a := a35) (o := o35) (g := g35) (j := j35) d_34 (by omega) (by omega) (fun k h1 h2 => hme35 k (by omega) h2)) (q0 := 0) rfl rfl rfl rfl (rmK_le (by omega) (by decide)) (Nat.le_of_ble_eq_true rfl) rfl rfl ?_
        rintro _ _ (⟨i37, s37, me37, od37, wi37, al37, e37, a37, o37, g37, j37, rfl, rfl, R37, G37⟩ | ⟨i37, dp37, mn37, me37, od37, wi37, al37, rfl, rfl, hL37, B37⟩)
        · refine J_st (.int (b2i true) :: []) rfl ?_
          have hil37 := G37.il
          have hiL37 := G37.iL
          have hsl37 := G37.sl
          have hss37 := G37.ss
          have hme37 : ∀ k, i37 ≤ k → k ≤ Lt → me37 k = 0 := fun k h1 h2 => (G37.fm k (Or.inr h1)).trans (hme35 k (by omega) h2)
          refine J_ifeqb 53 C iX10_isOfTwo_41 rfl (fun h41 => absurd (h41.symm.trans rfl) (by decide)) (fun h41 => ?_)
          refine J_aload_n C iX10_isOfTwo_44 rfl rfl ?_
          refine J_bipush 41 C iX10_isOfTwo_45 rfl ?_
          refine J_cV (As := [.int 41]) (st := []) (rc2 := (rmK (35 - 4 * d)).cells) (rs2 := (rmK (35 - 4 * d)).slots) C iX10_isOfTwo_47 lm_X10_296 yc_X10_closes yv_X10_closes (c_X10_closes (d := d) (k := 25) rfl (by decide) (by decide) (by decide) hLt hkd htq hend hva (by omega)) (q0 := 0) rfl rfl rfl rfl (rmK_le (by omega) (by decide)) (Nat.le_of_ble_eq_true rfl) rfl rfl ?_
          rintro _ _ (⟨rfl, rfl, t_38, l_38⟩ | ⟨rfl, rfl, n_38⟩)
          · refine J_st (.int (b2i true) :: []) rfl ?_
            refine J_ifneb 55 C iX10_isOfTwo_50 rfl (fun h50 => ?_) (fun h50 => absurd (h50.symm.trans rfl) (by decide))
            refine J_aload_n C iX10_isOfTwo_55 rfl rfl ?_
            refine J_aload_n C iX10_isOfTwo_56 rfl rfl ?_
            refine J_iload_n C iX10_isOfTwo_57 rfl rfl ?_
            refine J_iconst 0 C iX10_isOfTwo_58 rfl ?_
            refine J_cV (As := [.ref (pn 0), .int 23, .int 0]) (st := []) (rc2 := (rmK (35 - 4 * d)).cells) (rs2 := (rmK (35 - 4 * d)).slots) C iX10_isOfTwo_59 lm_X10_279 yc_X10_put yv_X10_put (c_X10_put (s := s37) (by omega)) (q0 := 0) rfl rfl rfl rfl (rmK_le (by omega) (by decide)) (Nat.le_of_ble_eq_true rfl) rfl rfl ?_
            rintro _ _ ⟨rfl, rfl⟩
            refine J_st ([]) rfl ?_
            refine J_iconst 1 C iX10_isOfTwo_62 rfl ?_
            exact J_zret C E iX10_isOfTwo_63 rfl (Or.inl ⟨(i37 + 1), (s37 + 1), me37, upd od37 s37 23, upd wi37 s37 0, al37, e37, a37, upd o37 s37 15, upd g37 s37 0, upd j37 s37 0, rfl, rfl, by rw [choC, nowC_ok, htk, takeC_ok htk, deep_ok d_34 t_34, if_neg brk_f, R35, takeC_ok t_36, R37, takeC_ok t_38, stepC_lt (by omega)]; rfl, ((((G35.bin (c := 15) G37 (hme _ (by omega) (by omega)) (Or.inl ⟨rfl, rfl, by decide, by decide⟩)).post l_38 (hme _ (by omega) (by omega))).pre (hme _ (by omega) (by omega))).pre (hme _ (by omega) (by omega)))⟩)
          · refine J_st (.int (b2i false) :: []) rfl ?_
            refine J_ifneb 55 C iX10_isOfTwo_50 rfl (fun h50 => absurd (h50.symm.trans rfl) (by decide)) (fun h50 => ?_)
            refine J_iconst 0 C iX10_isOfTwo_53 rfl ?_
            exact J_zret C E iX10_isOfTwo_54 rfl (Or.inr ⟨i37, nI (d + 1), nI s37, me37, od37, wi37, al37, rfl, rfl, by omega, by rw [choC, nowC_ok, htk, takeC_ok htk, deep_ok d_34 t_34, if_neg brk_f, R35, takeC_ok t_36, R37]; exact (Bk.no n_38).step⟩)
        · refine J_st (.int (b2i false) :: []) rfl ?_
          refine J_ifeqb 53 C iX10_isOfTwo_41 rfl (fun h41 => ?_) (fun h41 => absurd (h41.symm.trans rfl) (by decide))
          refine J_iconst 0 C iX10_isOfTwo_53 rfl ?_
          exact J_zret C E iX10_isOfTwo_54 rfl (Or.inr ⟨i37, dp37, mn37, me37, od37, wi37, al37, rfl, rfl, by omega, by rw [choC, nowC_ok, htk, takeC_ok htk, deep_ok d_34 t_34, if_neg brk_f, R35, takeC_ok t_36]; exact (B37.take (by decide)).step⟩)
      · refine J_st (.int (b2i false) :: []) rfl ?_
        refine J_ifeqb 53 C iX10_isOfTwo_33 rfl (fun h33 => ?_) (fun h33 => absurd (h33.symm.trans rfl) (by decide))
        refine J_iconst 0 C iX10_isOfTwo_53 rfl ?_
        exact J_zret C E iX10_isOfTwo_54 rfl (Or.inr ⟨i35, nI (d + 1), nI s35, me35, od35, wi35, al35, rfl, rfl, by omega, by rw [choC, nowC_ok, htk, takeC_ok htk, deep_ok d_34 t_34, if_neg brk_f, R35]; exact (((Bk.no n_36).app (fro_sum hfv)).take (by decide)).step⟩)
    · refine J_st (.int (b2i false) :: []) rfl ?_
      refine J_ifeqb 53 C iX10_isOfTwo_24 rfl (fun h24 => ?_) (fun h24 => absurd (h24.symm.trans rfl) (by decide))
      refine J_iconst 0 C iX10_isOfTwo_53 rfl ?_
      exact J_zret C E iX10_isOfTwo_54 rfl (Or.inr ⟨i35, dp35, mn35, me35, od35, wi35, al35, rfl, rfl, by omega, by rw [choC, nowC_ok, htk, takeC_ok htk, deep_ok d_34 t_34, if_neg brk_f]; exact (((B35.take (by decide)).app (fro_sum hfv)).take (by decide)).step⟩)
  · refine J_st (.int (b2i false) :: []) rfl ?_
    refine J_ifeqb 53 C iX10_isOfTwo_16 rfl (fun h16 => ?_) (fun h16 => absurd (h16.symm.trans rfl) (by decide))
    refine J_iconst 0 C iX10_isOfTwo_53 rfl ?_
    exact J_zret C E iX10_isOfTwo_54 rfl (Or.inr ⟨(i + 1), nI d, nI s, me, od, wi, al, rfl, rfl, by omega, by rw [choC, nowC_ok, htk, takeC_ok htk, if_pos (Bk.deep n_34).brk]; exact Bk.deep n_34⟩)

set_option maxRecDepth 100000 in
set_option maxHeartbeats 4000000 in
theorem c_X10_isValue {Z : GZ} {l : Launch} {mo pl pn : Nat → Nat} {th sz ea lr dy ca hs ls : Int32} {kn : Bool} {hn va : Nat → Int64} {ha hh dz wh bg en tp kd fr wo pc ht fs la kh kf kl sh dk sk : Nat → Int32} {Lt m : Nat} {tq : Nat → Nat} {sq : Nat → Int32} {vq nm : Nat → Int64} {vv : PS → PS} (hfv : Fro vv) {i s : Nat} {me od wi al : Nat → Int32} {e a : Int32} {o g j : Nat → Int32} {d : Nat} (hLt : Lt ≤ 400) (hkd : ∀ i, i ≤ Lt → kd i = km (tq i)) (htq : ∀ i, tq i < 43) (hend : ∀ i, i ≤ Lt → tq i ≠ 41 → tq i ≠ 42 → i < Lt) (hva : ∀ i, i ≤ Lt → tq i = 39 ∨ tq i = 40 → va i = vq i) (hd : d ≤ 8) (hv : d < 8 → ∀ {i s : Nat} {me od wi al : Nat → Int32} {e a : Int32} {o g j : Nat → Int32}, i ≤ Lt → s ≤ i → (∀ k, i ≤ k → k ≤ Lt → me k = 0) → Ct Z l yX10_isValue cX10_isValue 3 (some .boolean) (rmK (32 - 4 * d)) [.ref (mo 0), .ref (pn 0)] (wMd Z mo pl th sz ea (nI i) (nI (d + 1)) lr dy ca kn tp kd fr me va wo pc ht fs la kh kf kl sh dk sk ++ wPl Z pn hs ls (nI s) hn ha hh dz wh bg en od wi al) (fun v w => (∃ i2 s2 me2 od2 wi2 al2 e2 a2 o2 g2 j2, v = some (.int (b2i true)) ∧ w = (wMd Z mo pl th sz ea (nI i2) (nI (d + 1)) lr dy ca kn tp kd fr me2 va wo pc ht fs la kh kf kl sh dk sk ++ wPl Z pn hs ls (nI s2) hn ha hh dz wh bg en od2 wi2 al2) ∧ vv (i, false, e, a, s, o, g, j) = (i2, false, e2, a2, s2, o2, g2, j2) ∧ Gd Lt tq sq vq nm m false i s me od wi al e a o g j i2 s2 me2 od2 wi2 al2 e2 a2 o2 g2 j2) ∨ (∃ i2 dp2 mn2 me2 od2 wi2 al2, v = some (.int (b2i false)) ∧ w = (wMd Z mo pl th sz ea (nI i2) dp2 lr dy ca kn tp kd fr me2 va wo pc ht fs la kh kf kl sh dk sk ++ wPl Z pn hs ls mn2 hn ha hh dz wh bg en od2 wi2 al2) ∧ i2 ≤ Lt ∧ Bk (vv (i, false, e, a, s, o, g, j)) i2 (sq i2)))) (hsum : d < 8 → ∀ {i s : Nat} {me od wi al : Nat → Int32} {e a : Int32} {o g j : Nat → Int32}, i ≤ Lt → s ≤ i → (∀ k, i ≤ k → k ≤ Lt → me k = 0) → Ct Z l yX10_isSum cX10_isSum 3 (some .boolean) (rmK (34 - 4 * d)) [.ref (mo 0), .ref (pn 0)] (wMd Z mo pl th sz ea (nI i) (nI (d + 1)) lr dy ca kn tp kd fr me va wo pc ht fs la kh kf kl sh dk sk ++ wPl Z pn hs ls (nI s) hn ha hh dz wh bg en od wi al) (fun v w => (∃ i2 s2 me2 od2 wi2 al2 e2 a2 o2 g2 j2, v = some (.int (b2i true)) ∧ w = (wMd Z mo pl th sz ea (nI i2) (nI (d + 1)) lr dy ca kn tp kd fr me2 va wo pc ht fs la kh kf kl sh dk sk ++ wPl Z pn hs ls (nI s2) hn ha hh dz wh bg en od2 wi2 al2) ∧ sumC tq sq vv (i, false, e, a, s, o, g, j) = (i2, false, e2, a2, s2, o2, g2, j2) ∧ Gd Lt tq sq vq nm m false i s me od wi al e a o g j i2 s2 me2 od2 wi2 al2 e2 a2 o2 g2 j2) ∨ (∃ i2 dp2 mn2 me2 od2 wi2 al2, v = some (.int (b2i false)) ∧ w = (wMd Z mo pl th sz ea (nI i2) dp2 lr dy ca kn tp kd fr me2 va wo pc ht fs la kh kf kl sh dk sk ++ wPl Z pn hs ls mn2 hn ha hh dz wh bg en od2 wi2 al2) ∧ i2 ≤ Lt ∧ Bk (sumC tq sq vv (i, false, e, a, s, o, g, j)) i2 (sq i2)))) (hi : i ≤ Lt) (hs_ : s ≤ i) (hme : ∀ k, i ≤ k → k ≤ Lt → me k = 0)  : Ct Z l yX10_isValue cX10_isValue 3 (some .boolean) (rmK (36 - 4 * d)) [.ref (mo 0), .ref (pn 0)] (wMd Z mo pl th sz ea (nI i) (nI d) lr dy ca kn tp kd fr me va wo pc ht fs la kh kf kl sh dk sk ++ wPl Z pn hs ls (nI s) hn ha hh dz wh bg en od wi al) (fun v w => (∃ i2 s2 me2 od2 wi2 al2 e2 a2 o2 g2 j2, v = some (.int (b2i true)) ∧ w = (wMd Z mo pl th sz ea (nI i2) (nI d) lr dy ca kn tp kd fr me2 va wo pc ht fs la kh kf kl sh dk sk ++ wPl Z pn hs ls (nI s2) hn ha hh dz wh bg en od2 wi2 al2) ∧ valB tq sq vq nm m d vv (i, false, e, a, s, o, g, j) = (i2, false, e2, a2, s2, o2, g2, j2) ∧ Gd Lt tq sq vq nm m false i s me od wi al e a o g j i2 s2 me2 od2 wi2 al2 e2 a2 o2 g2 j2) ∨ (∃ i2 dp2 mn2 me2 od2 wi2 al2, v = some (.int (b2i false)) ∧ w = (wMd Z mo pl th sz ea (nI i2) dp2 lr dy ca kn tp kd fr me2 va wo pc ht fs la kh kf kl sh dk sk ++ wPl Z pn hs ls mn2 hn ha hh dz wh bg en od2 wi2 al2) ∧ i2 ≤ Lt ∧ Bk (valB tq sq vq nm m d vv (i, false, e, a, s, o, g, j)) i2 (sq i2))) := by
  refine Ct.ofJ (own := RX10) (nm := "isValue") (lv0 := [(0, .ref (mo 0)), (1, .ref (pn 0))]) (by decide) rfl rfl (Nat.le_of_ble_eq_true rfl) rfl (fun X hXl C E => ?_)
  subst hXl
  refine J_aload_n C iX10_isValue_0 rfl rfl ?_
  refine J_get (.ref (mo 2)) 0 C iX10_isValue_1 gf_X10_24 rfl rfl ?_
  refine J_aload_n C iX10_isValue_4 rfl rfl ?_
  refine J_get (.int (nI i)) 0 C iX10_isValue_5 gf_X10_263 rfl rfl ?_
  refine J_iald 2 C iX10_isValue_8 rfl (vp_in_nI (n := i) (by omega) (by decide)) ?_
  rw [nI_clamp (n := i) (by omega)]
  refine J_istore_n [(2, .int (kd i)), (0, .ref (mo 0)), (1, .ref (pn 0))] C iX10_isValue_9 rfl (by decide) rfl ?_
  refine J_iload_n C iX10_isValue_10 rfl rfl ?_
  refine J_bipush 45 C iX10_isValue_11 rfl ?_
  refine J_icmpne 55 C iX10_isValue_13 rfl (fun h13 => ?_) (fun h13 => ?_)
  · have n13 : tq i ≠ 31 := fun z => h13 ((kdT (k := 31) (hkd _ (by omega)) (htq _) (by decide) rfl).mpr z)
    refine J_iload_n C iX10_isValue_55 rfl rfl ?_
    refine J_bipush 40 C iX10_isValue_56 rfl ?_
    refine J_icmpne 93 C iX10_isValue_58 rfl (fun h58 => ?_) (fun h58 => ?_)
    · have n58 : tq i ≠ 24 := fun z => h58 ((kdT (k := 24) (hkd _ (by omega)) (htq _) (by decide) rfl).mpr z)
      refine J_iload_n C iX10_isValue_93 rfl rfl ?_
      refine J_bipush 22 C iX10_isValue_94 rfl ?_
      refine J_icmpeq 105 C iX10_isValue_96 rfl (fun h96 => ?_) (fun h96 => ?_)
      · have t96 : tq i = 22 := (kdT (k := 22) (hkd _ (by omega)) (htq _) (by decide) rfl).mp h96
        refine J_lvm [(2, .int 22), (0, .ref (mo 0)), (1, .ref (pn 0))] (by rw [h96]; rfl) ?_
        refine J_aload_n C iX10_isValue_105 rfl rfl ?_
        refine J_aload_n C iX10_isValue_106 rfl rfl ?_
        refine J_iload_n C iX10_isValue_107 rfl rfl ?_
        refine J_cV (As := [.ref (pn 0), .int 22]) (st := []) (rc2 := (rmK (36 - 4 * d)).cells) (rs2 := (rmK (36 - 4 * d)).slots) C iX10_isValue_108 lm_X10_315 yc_X10_isOfTwo yv_X10_isOfTwo (c_X10_isOfTwo_22 hfv hLt hkd htq hend hva hd hsum (e := e) (a := a) (o := o) (g := g) (j := j) (by omega) (by omega) (fun k h1 h2 => hme k (by omega) h2) t96) (q0 := 0) rfl rfl rfl rfl (rmK_le (by omega) (by decide)) (Nat.le_of_ble_eq_true rfl) rfl rfl ?_
        rintro _ _ (⟨i39, s39, me39, od39, wi39, al39, e39, a39, o39, g39, j39, rfl, rfl, R39, G39⟩ | ⟨i39, dp39, mn39, me39, od39, wi39, al39, rfl, rfl, hL39, B39⟩)
        · refine J_st (.int (b2i true) :: []) rfl ?_
          have hil39 := G39.il
          have hiL39 := G39.iL
          have hsl39 := G39.sl
          have hss39 := G39.ss
          have hme39 : ∀ k, i39 ≤ k → k ≤ Lt → me39 k = 0 := fun k h1 h2 => (G39.fm k (Or.inr h1)).trans (hme k (by omega) h2)
          exact J_zret C E iX10_isValue_111 nb_b2i (Or.inl ⟨i39, s39, me39, od39, wi39, al39, e39, a39, o39, g39, j39, rfl, rfl, by rw [valB, if_neg (now_ne (c := 40) t96 (by decide)), if_neg (now_ne (c := 11) t96 (by decide)), if_neg (now_ne (c := 15) t96 (by decide)), if_neg (now_ne (c := 12) t96 (by decide)), if_neg (now_ne (c := 13) t96 (by decide)), if_neg (now_ne (c := 14) t96 (by decide)), if_neg (now_ne (c := 31) t96 (by decide)), if_neg (now_ne (c := 24) t96 (by decide)), if_pos (now_eq t96), R39], G39⟩)
        · refine J_st (.int (b2i false) :: []) rfl ?_
          exact J_zret C E iX10_isValue_111 nb_b2i (Or.inr ⟨i39, dp39, mn39, me39, od39, wi39, al39, rfl, rfl, by omega, by rw [valB, if_neg (now_ne (c := 40) t96 (by decide)), if_neg (now_ne (c := 11) t96 (by decide)), if_neg (now_ne (c := 15) t96 (by decide)), if_neg (now_ne (c := 12) t96 (by decide)), if_neg (now_ne (c := 13) t96 (by decide)), if_neg (now_ne (c := 14) t96 (by decide)), if_neg (now_ne (c := 31) t96 (by decide)), if_neg (now_ne (c := 24) t96 (by decide)), if_pos (now_eq t96)]; exact B39⟩)
      · have n96 : tq i ≠ 22 := fun z => h96 ((kdT (k := 22) (hkd _ (by omega)) (htq _) (by decide) rfl).mpr z)
        refine J_iload_n C iX10_isValue_99 rfl rfl ?_
        refine J_bipush 23 C iX10_isValue_100 rfl ?_
        refine J_icmpne 112 C iX10_isValue_102 rfl (fun h102 => ?_) (fun h102 => ?_)
        · have n102 : tq i ≠ 23 := fun z => h102 ((kdT (k := 23) (hkd _ (by omega)) (htq _) (by decide) rfl).mpr z)
          refine J_iload_n C iX10_isValue_112 rfl rfl ?_
          refine J_bipush 12 C iX10_isValue_113 rfl ?_
          refine J_bipush 14 C iX10_isValue_115 rfl ?_
          refine J_cSp (As := [.int (kd i), .int 12, .int 14]) (st := []) C iX10_isValue_117 lm_X10_76 yc_X10_isIn ys_X10_isIn (c_X10_isIn (q := kd i) (a := 12) (b := 14)) rfl (rmK_le (by omega) (by decide)) (Nat.le_of_ble_eq_true rfl) ⟨rfl, rfl⟩ ?_
          rintro _ rfl
          refine J_st (.int (b2i (inX (kd i) 12 14)) :: []) rfl ?_
          refine J_ifeqb 130 C iX10_isValue_120 rfl (fun h120 => ?_) (fun h120 => ?_)
          · have n912 : tq i ≠ 12 := fun z => by rw [(kdT (k := 12) (hkd i hi) (htq _) (by decide) rfl).mpr z] at h120; exact absurd h120 (by decide)
            have n913 : tq i ≠ 13 := fun z => by rw [(kdT (k := 13) (hkd i hi) (htq _) (by decide) rfl).mpr z] at h120; exact absurd h120 (by decide)
            have n914 : tq i ≠ 14 := fun z => by rw [(kdT (k := 14) (hkd i hi) (htq _) (by decide) rfl).mpr z] at h120; exact absurd h120 (by decide)
            refine J_iload_n C iX10_isValue_130 rfl rfl ?_
            refine J_bipush 31 C iX10_isValue_131 rfl ?_
            refine J_icmpne 156 C iX10_isValue_133 rfl (fun h133 => ?_) (fun h133 => ?_)
            · have n133 : tq i ≠ 40 := fun z => h133 ((kdT (k := 40) (hkd _ (by omega)) (htq _) (by decide) rfl).mpr z)
              refine J_iload_n C iX10_isValue_156 rfl rfl ?_
              refine J_bipush 11 C iX10_isValue_157 rfl ?_
              refine J_icmpeq 168 C iX10_isValue_159 rfl (fun h159 => ?_) (fun h159 => ?_)
              · have t159 : tq i = 11 := (kdT (k := 11) (hkd _ (by omega)) (htq _) (by decide) rfl).mp h159
                refine J_lvm [(2, .int 11), (0, .ref (mo 0)), (1, .ref (pn 0))] (by rw [h159]; rfl) ?_
                refine J_aload_n C iX10_isValue_168 rfl rfl ?_
                refine J_aload_n C iX10_isValue_169 rfl rfl ?_
                refine J_iload_n C iX10_isValue_170 rfl rfl ?_
                refine J_iconst 0 C iX10_isValue_171 rfl ?_
                refine J_cV (As := [.ref (pn 0), .int 11, .int 0]) (st := []) (rc2 := (rmK (36 - 4 * d)).cells) (rs2 := (rmK (36 - 4 * d)).slots) C iX10_isValue_172 lm_X10_279 yc_X10_put yv_X10_put (c_X10_put (s := s) (by omega)) (q0 := 0) rfl rfl rfl rfl (rmK_le (by omega) (by decide)) (Nat.le_of_ble_eq_true rfl) rfl rfl ?_
                rintro _ _ ⟨rfl, rfl⟩
                refine J_st ([]) rfl ?_
                refine J_goto 180 C iX10_isValue_175 rfl ?_
                have hl0 : i < Lt := hend i hi (by rw [t159]; decide) (by rw [t159]; decide)
                refine J_aload_n C iX10_isValue_180 rfl rfl ?_
                refine J_dup C iX10_isValue_181 rfl ?_
                refine J_get (.int (nI i)) 0 C iX10_isValue_182 gf_X10_263 rfl rfl ?_
                refine J_iconst 1 C iX10_isValue_185 rfl ?_
                refine J_iadd C iX10_isValue_186 ?_
                rw [show (nI i) + 1 = nI (i + 1) from nI_add _ _]
                refine J_put (wMd Z mo pl th sz ea (nI (i + 1)) (nI d) lr dy ca kn tp kd fr me va wo pc ht fs la kh kf kl sh dk sk ++ wPl Z pn hs ls (nI (s + 1)) hn ha hh dz wh bg en (upd od s 11) (upd wi s 0) al) 0 C iX10_isValue_187 pf_X10_263 rfl rfl rfl (Nat.le_of_ble_eq_true rfl) rfl ?_
                refine J_iconst 1 C iX10_isValue_190 rfl ?_
                exact J_zret C E iX10_isValue_191 rfl (Or.inl ⟨(i + 1), (s + 1), me, upd od s 11, upd wi s 0, al, e, a, upd o s 1, upd g s 0, upd j s 0, rfl, rfl, by rw [valB, if_neg (now_ne (c := 40) t159 (by decide)), if_pos (now_eq t159), takeC_ok t159, stepC_lt (by omega)], Gd.leaf (c := 1) (by decide) (fun _ => rfl) hl0 (hme _ (by omega) (by omega))⟩)
              · have n159 : tq i ≠ 11 := fun z => h159 ((kdT (k := 11) (hkd _ (by omega)) (htq _) (by decide) rfl).mpr z)
                refine J_iload_n C iX10_isValue_162 rfl rfl ?_
                refine J_bipush 15 C iX10_isValue_163 rfl ?_
                refine J_icmpne 178 C iX10_isValue_165 rfl (fun h165 => ?_) (fun h165 => ?_)
                · have n165 : tq i ≠ 15 := fun z => h165 ((kdT (k := 15) (hkd _ (by omega)) (htq _) (by decide) rfl).mpr z)
                  refine J_iconst 0 C iX10_isValue_178 rfl ?_
                  exact J_zret C E iX10_isValue_179 rfl (Or.inr ⟨i, nI d, nI s, me, od, wi, al, rfl, rfl, by omega, by rw [valB, if_neg (now_nn n133), if_neg (now_nn n159), if_neg (now_nn n165), if_neg (now_nn n912), if_neg (now_nn n913), if_neg (now_nn n914), if_neg (now_nn n13), if_neg (now_nn n58), if_neg (now_nn n96), if_neg (now_nn n102)]; exact Bk.fail⟩)
                · have t165 : tq i = 15 := (kdT (k := 15) (hkd _ (by omega)) (htq _) (by decide) rfl).mp h165
                  refine J_lvm [(2, .int 15), (0, .ref (mo 0)), (1, .ref (pn 0))] (by rw [h165]; rfl) ?_
                  refine J_aload_n C iX10_isValue_168 rfl rfl ?_
                  refine J_aload_n C iX10_isValue_169 rfl rfl ?_
                  refine J_iload_n C iX10_isValue_170 rfl rfl ?_
                  refine J_iconst 0 C iX10_isValue_171 rfl ?_
                  refine J_cV (As := [.ref (pn 0), .int 15, .int 0]) (st := []) (rc2 := (rmK (36 - 4 * d)).cells) (rs2 := (rmK (36 - 4 * d)).slots) C iX10_isValue_172 lm_X10_279 yc_X10_put yv_X10_put (c_X10_put (s := s) (by omega)) (q0 := 0) rfl rfl rfl rfl (rmK_le (by omega) (by decide)) (Nat.le_of_ble_eq_true rfl) rfl rfl ?_
                  rintro _ _ ⟨rfl, rfl⟩
                  refine J_st ([]) rfl ?_
                  refine J_goto 180 C iX10_isValue_175 rfl ?_
                  have hl0 : i < Lt := hend i hi (by rw [t165]; decide) (by rw [t165]; decide)
                  refine J_aload_n C iX10_isValue_180 rfl rfl ?_
                  refine J_dup C iX10_isValue_181 rfl ?_
                  refine J_get (.int (nI i)) 0 C iX10_isValue_182 gf_X10_263 rfl rfl ?_
                  refine J_iconst 1 C iX10_isValue_185 rfl ?_
                  refine J_iadd C iX10_isValue_186 ?_
                  rw [show (nI i) + 1 = nI (i + 1) from nI_add _ _]
                  refine J_put (wMd Z mo pl th sz ea (nI (i + 1)) (nI d) lr dy ca kn tp kd fr me va wo pc ht fs la kh kf kl sh dk sk ++ wPl Z pn hs ls (nI (s + 1)) hn ha hh dz wh bg en (upd od s 15) (upd wi s 0) al) 0 C iX10_isValue_187 pf_X10_263 rfl rfl rfl (Nat.le_of_ble_eq_true rfl) rfl ?_
                  refine J_iconst 1 C iX10_isValue_190 rfl ?_
                  exact J_zret C E iX10_isValue_191 rfl (Or.inl ⟨(i + 1), (s + 1), me, upd od s 15, upd wi s 0, al, e, a, upd o s 2, upd g s 0, upd j s 0, rfl, rfl, by rw [valB, if_neg (now_ne (c := 40) t165 (by decide)), if_neg (now_ne (c := 11) t165 (by decide)), if_pos (now_eq t165), takeC_ok t165, stepC_lt (by omega)], Gd.leaf (c := 2) (by decide) (fun _ => rfl) hl0 (hme _ (by omega) (by omega))⟩)
            · have t133 : tq i = 40 := (kdT (k := 40) (hkd _ (by omega)) (htq _) (by decide) rfl).mp h133
              have hvq := hva i hi (Or.inr t133)
              refine J_aload_n C iX10_isValue_136 rfl rfl ?_
              refine J_aload_n C iX10_isValue_137 rfl rfl ?_
              refine J_bipush 100 C iX10_isValue_138 rfl ?_
              refine J_aload_n C iX10_isValue_140 rfl rfl ?_
              refine J_get (.ref (mo 5)) 0 C iX10_isValue_141 gf_X10_33 rfl rfl ?_
              refine J_aload_n C iX10_isValue_144 rfl rfl ?_
              refine J_get (.int (nI i)) 0 C iX10_isValue_145 gf_X10_263 rfl rfl ?_
              refine J_lald 5 C iX10_isValue_148 rfl (vp_in_nI (n := i) (by omega) (by decide)) ?_
              rw [nI_clamp (n := i) (by omega)]
              refine J_l2i C iX10_isValue_149 ?_
              refine J_cV (As := [.ref (pn 0), .int 100, .int ((va i).toInt32)]) (st := []) (rc2 := (rmK (36 - 4 * d)).cells) (rs2 := (rmK (36 - 4 * d)).slots) C iX10_isValue_150 lm_X10_279 yc_X10_put yv_X10_put (c_X10_put (s := s) (by omega)) (q0 := 0) rfl rfl rfl rfl (rmK_le (by omega) (by decide)) (Nat.le_of_ble_eq_true rfl) rfl rfl ?_
              rintro _ _ ⟨rfl, rfl⟩
              refine J_st ([]) rfl ?_
              refine J_goto 180 C iX10_isValue_153 rfl ?_
              have hl0 : i < Lt := hend i hi (by rw [t133]; decide) (by rw [t133]; decide)
              refine J_aload_n C iX10_isValue_180 rfl rfl ?_
              refine J_dup C iX10_isValue_181 rfl ?_
              refine J_get (.int (nI i)) 0 C iX10_isValue_182 gf_X10_263 rfl rfl ?_
              refine J_iconst 1 C iX10_isValue_185 rfl ?_
              refine J_iadd C iX10_isValue_186 ?_
              rw [show (nI i) + 1 = nI (i + 1) from nI_add _ _]
              refine J_put (wMd Z mo pl th sz ea (nI (i + 1)) (nI d) lr dy ca kn tp kd fr me va wo pc ht fs la kh kf kl sh dk sk ++ wPl Z pn hs ls (nI (s + 1)) hn ha hh dz wh bg en (upd od s 100) (upd wi s ((va i).toInt32)) al) 0 C iX10_isValue_187 pf_X10_263 rfl rfl rfl (Nat.le_of_ble_eq_true rfl) rfl ?_
              refine J_iconst 1 C iX10_isValue_190 rfl ?_
              exact J_zret C E iX10_isValue_191 rfl (Or.inl ⟨(i + 1), (s + 1), me, upd od s 100, upd wi s ((va i).toInt32), al, e, a, upd o s 0, upd g s ((vq i).toInt32), upd j s 0, rfl, rfl, by rw [valB, if_pos (now_eq t133), valT, if_pos (show nw tq i false = 40 from t133), takeC_ok t133, stepC_lt (by omega)], Gd.leaf (c := 0) (by decide) (fun _ => congrArg Int64.toInt32 hvq) hl0 (hme _ (by omega) (by omega))⟩)
          · rcases in3 h120 with h9 | h9 | h9
            · have t9 : tq i = 12 := (kdT (k := 12) (hkd _ (by omega)) (htq _) (by decide) rfl).mp h9
              refine J_lvm [(2, .int 12), (0, .ref (mo 0)), (1, .ref (pn 0))] (by rw [h9]; rfl) ?_
              refine J_aload_n C iX10_isValue_123 rfl rfl ?_
              refine J_aload_n C iX10_isValue_124 rfl rfl ?_
              refine J_iload_n C iX10_isValue_125 rfl rfl ?_
              refine J_cV (As := [.ref (pn 0), .int 12]) (st := []) (rc2 := (rmK (36 - 4 * d)).cells) (rs2 := (rmK (36 - 4 * d)).slots) C iX10_isValue_126 lm_X10_299 yc_X10_isAbout yv_X10_isAbout (c_X10_isAbout_12 (m := m) (sq := sq) (nm := nm) hLt hkd htq hend hva (e := e) (a := a) (o := o) (g := g) (j := j) (by omega) (by omega) (fun k h1 h2 => hme k (by omega) h2) t9) (q0 := 0) rfl rfl rfl rfl (rmK_le (by omega) (by decide)) (Nat.le_of_ble_eq_true rfl) rfl rfl ?_
              rintro _ _ (⟨i40, s40, me40, od40, wi40, al40, e40, a40, o40, g40, j40, rfl, rfl, R40, G40⟩ | ⟨i40, dp40, mn40, me40, od40, wi40, al40, rfl, rfl, hL40, B40⟩)
              · refine J_st (.int (b2i true) :: []) rfl ?_
                have hil40 := G40.il
                have hiL40 := G40.iL
                have hsl40 := G40.sl
                have hss40 := G40.ss
                have hme40 : ∀ k, i40 ≤ k → k ≤ Lt → me40 k = 0 := fun k h1 h2 => (G40.fm k (Or.inr h1)).trans (hme k (by omega) h2)
                exact J_zret C E iX10_isValue_129 nb_b2i (Or.inl ⟨i40, s40, me40, od40, wi40, al40, e40, a40, o40, g40, j40, rfl, rfl, by rw [valB, if_neg (now_ne (c := 40) t9 (by decide)), if_neg (now_ne (c := 11) t9 (by decide)), if_neg (now_ne (c := 15) t9 (by decide)), if_pos (now_eq t9), R40], G40⟩)
              · refine J_st (.int (b2i false) :: []) rfl ?_
                exact J_zret C E iX10_isValue_129 nb_b2i (Or.inr ⟨i40, dp40, mn40, me40, od40, wi40, al40, rfl, rfl, by omega, by rw [valB, if_neg (now_ne (c := 40) t9 (by decide)), if_neg (now_ne (c := 11) t9 (by decide)), if_neg (now_ne (c := 15) t9 (by decide)), if_pos (now_eq t9)]; exact B40⟩)
            · have t9 : tq i = 13 := (kdT (k := 13) (hkd _ (by omega)) (htq _) (by decide) rfl).mp h9
              refine J_lvm [(2, .int 13), (0, .ref (mo 0)), (1, .ref (pn 0))] (by rw [h9]; rfl) ?_
              refine J_aload_n C iX10_isValue_123 rfl rfl ?_
              refine J_aload_n C iX10_isValue_124 rfl rfl ?_
              refine J_iload_n C iX10_isValue_125 rfl rfl ?_
              refine J_cV (As := [.ref (pn 0), .int 13]) (st := []) (rc2 := (rmK (36 - 4 * d)).cells) (rs2 := (rmK (36 - 4 * d)).slots) C iX10_isValue_126 lm_X10_299 yc_X10_isAbout yv_X10_isAbout (c_X10_isAbout_13 (m := m) (sq := sq) (nm := nm) hLt hkd htq hend hva (e := e) (a := a) (o := o) (g := g) (j := j) (by omega) (by omega) (fun k h1 h2 => hme k (by omega) h2) t9) (q0 := 0) rfl rfl rfl rfl (rmK_le (by omega) (by decide)) (Nat.le_of_ble_eq_true rfl) rfl rfl ?_
              rintro _ _ (⟨i41, s41, me41, od41, wi41, al41, e41, a41, o41, g41, j41, rfl, rfl, R41, G41⟩ | ⟨i41, dp41, mn41, me41, od41, wi41, al41, rfl, rfl, hL41, B41⟩)
              · refine J_st (.int (b2i true) :: []) rfl ?_
                have hil41 := G41.il
                have hiL41 := G41.iL
                have hsl41 := G41.sl
                have hss41 := G41.ss
                have hme41 : ∀ k, i41 ≤ k → k ≤ Lt → me41 k = 0 := fun k h1 h2 => (G41.fm k (Or.inr h1)).trans (hme k (by omega) h2)
                exact J_zret C E iX10_isValue_129 nb_b2i (Or.inl ⟨i41, s41, me41, od41, wi41, al41, e41, a41, o41, g41, j41, rfl, rfl, by rw [valB, if_neg (now_ne (c := 40) t9 (by decide)), if_neg (now_ne (c := 11) t9 (by decide)), if_neg (now_ne (c := 15) t9 (by decide)), if_neg (now_ne (c := 12) t9 (by decide)), if_pos (now_eq t9), R41], G41⟩)
              · refine J_st (.int (b2i false) :: []) rfl ?_
                exact J_zret C E iX10_isValue_129 nb_b2i (Or.inr ⟨i41, dp41, mn41, me41, od41, wi41, al41, rfl, rfl, by omega, by rw [valB, if_neg (now_ne (c := 40) t9 (by decide)), if_neg (now_ne (c := 11) t9 (by decide)), if_neg (now_ne (c := 15) t9 (by decide)), if_neg (now_ne (c := 12) t9 (by decide)), if_pos (now_eq t9)]; exact B41⟩)
            · have t9 : tq i = 14 := (kdT (k := 14) (hkd _ (by omega)) (htq _) (by decide) rfl).mp h9
              refine J_lvm [(2, .int 14), (0, .ref (mo 0)), (1, .ref (pn 0))] (by rw [h9]; rfl) ?_
              refine J_aload_n C iX10_isValue_123 rfl rfl ?_
              refine J_aload_n C iX10_isValue_124 rfl rfl ?_
              refine J_iload_n C iX10_isValue_125 rfl rfl ?_
              refine J_cV (As := [.ref (pn 0), .int 14]) (st := []) (rc2 := (rmK (36 - 4 * d)).cells) (rs2 := (rmK (36 - 4 * d)).slots) C iX10_isValue_126 lm_X10_299 yc_X10_isAbout yv_X10_isAbout (c_X10_isAbout_14 (m := m) (sq := sq) (nm := nm) hLt hkd htq hend hva (e := e) (a := a) (o := o) (g := g) (j := j) (by omega) (by omega) (fun k h1 h2 => hme k (by omega) h2) t9) (q0 := 0) rfl rfl rfl rfl (rmK_le (by omega) (by decide)) (Nat.le_of_ble_eq_true rfl) rfl rfl ?_
              rintro _ _ (⟨i42, s42, me42, od42, wi42, al42, e42, a42, o42, g42, j42, rfl, rfl, R42, G42⟩ | ⟨i42, dp42, mn42, me42, od42, wi42, al42, rfl, rfl, hL42, B42⟩)
              · refine J_st (.int (b2i true) :: []) rfl ?_
                have hil42 := G42.il
                have hiL42 := G42.iL
                have hsl42 := G42.sl
                have hss42 := G42.ss
                have hme42 : ∀ k, i42 ≤ k → k ≤ Lt → me42 k = 0 := fun k h1 h2 => (G42.fm k (Or.inr h1)).trans (hme k (by omega) h2)
                exact J_zret C E iX10_isValue_129 nb_b2i (Or.inl ⟨i42, s42, me42, od42, wi42, al42, e42, a42, o42, g42, j42, rfl, rfl, by rw [valB, if_neg (now_ne (c := 40) t9 (by decide)), if_neg (now_ne (c := 11) t9 (by decide)), if_neg (now_ne (c := 15) t9 (by decide)), if_neg (now_ne (c := 12) t9 (by decide)), if_neg (now_ne (c := 13) t9 (by decide)), if_pos (now_eq t9), R42], G42⟩)
              · refine J_st (.int (b2i false) :: []) rfl ?_
                exact J_zret C E iX10_isValue_129 nb_b2i (Or.inr ⟨i42, dp42, mn42, me42, od42, wi42, al42, rfl, rfl, by omega, by rw [valB, if_neg (now_ne (c := 40) t9 (by decide)), if_neg (now_ne (c := 11) t9 (by decide)), if_neg (now_ne (c := 15) t9 (by decide)), if_neg (now_ne (c := 12) t9 (by decide)), if_neg (now_ne (c := 13) t9 (by decide)), if_pos (now_eq t9)]; exact B42⟩)
        · have t102 : tq i = 23 := (kdT (k := 23) (hkd _ (by omega)) (htq _) (by decide) rfl).mp h102
          refine J_lvm [(2, .int 23), (0, .ref (mo 0)), (1, .ref (pn 0))] (by rw [h102]; rfl) ?_
          refine J_aload_n C iX10_isValue_105 rfl rfl ?_
          refine J_aload_n C iX10_isValue_106 rfl rfl ?_
          refine J_iload_n C iX10_isValue_107 rfl rfl ?_
          refine J_cV (As := [.ref (pn 0), .int 23]) (st := []) (rc2 := (rmK (36 - 4 * d)).cells) (rs2 := (rmK (36 - 4 * d)).slots) C iX10_isValue_108 lm_X10_315 yc_X10_isOfTwo yv_X10_isOfTwo (c_X10_isOfTwo_23 hfv hLt hkd htq hend hva hd hsum (e := e) (a := a) (o := o) (g := g) (j := j) (by omega) (by omega) (fun k h1 h2 => hme k (by omega) h2) t102) (q0 := 0) rfl rfl rfl rfl (rmK_le (by omega) (by decide)) (Nat.le_of_ble_eq_true rfl) rfl rfl ?_
          rintro _ _ (⟨i43, s43, me43, od43, wi43, al43, e43, a43, o43, g43, j43, rfl, rfl, R43, G43⟩ | ⟨i43, dp43, mn43, me43, od43, wi43, al43, rfl, rfl, hL43, B43⟩)
          · refine J_st (.int (b2i true) :: []) rfl ?_
            have hil43 := G43.il
            have hiL43 := G43.iL
            have hsl43 := G43.sl
            have hss43 := G43.ss
            have hme43 : ∀ k, i43 ≤ k → k ≤ Lt → me43 k = 0 := fun k h1 h2 => (G43.fm k (Or.inr h1)).trans (hme k (by omega) h2)
            exact J_zret C E iX10_isValue_111 nb_b2i (Or.inl ⟨i43, s43, me43, od43, wi43, al43, e43, a43, o43, g43, j43, rfl, rfl, by rw [valB, if_neg (now_ne (c := 40) t102 (by decide)), if_neg (now_ne (c := 11) t102 (by decide)), if_neg (now_ne (c := 15) t102 (by decide)), if_neg (now_ne (c := 12) t102 (by decide)), if_neg (now_ne (c := 13) t102 (by decide)), if_neg (now_ne (c := 14) t102 (by decide)), if_neg (now_ne (c := 31) t102 (by decide)), if_neg (now_ne (c := 24) t102 (by decide)), if_neg (now_ne (c := 22) t102 (by decide)), if_pos (now_eq t102), R43], G43⟩)
          · refine J_st (.int (b2i false) :: []) rfl ?_
            exact J_zret C E iX10_isValue_111 nb_b2i (Or.inr ⟨i43, dp43, mn43, me43, od43, wi43, al43, rfl, rfl, by omega, by rw [valB, if_neg (now_ne (c := 40) t102 (by decide)), if_neg (now_ne (c := 11) t102 (by decide)), if_neg (now_ne (c := 15) t102 (by decide)), if_neg (now_ne (c := 12) t102 (by decide)), if_neg (now_ne (c := 13) t102 (by decide)), if_neg (now_ne (c := 14) t102 (by decide)), if_neg (now_ne (c := 31) t102 (by decide)), if_neg (now_ne (c := 24) t102 (by decide)), if_neg (now_ne (c := 22) t102 (by decide)), if_pos (now_eq t102)]; exact B43⟩)
    · have t58 : tq i = 24 := (kdT (k := 24) (hkd _ (by omega)) (htq _) (by decide) rfl).mp h58
      refine J_aload_n C iX10_isValue_61 rfl rfl ?_
      refine J_bipush 40 C iX10_isValue_62 rfl ?_
      refine J_cV (As := [.int 40]) (st := []) (rc2 := (rmK (36 - 4 * d)).cells) (rs2 := (rmK (36 - 4 * d)).slots) C iX10_isValue_64 lm_X10_290 yc_X10_deeper yv_X10_deeper (c_X10_deeper (k := 24) rfl (by decide) (by decide) (by decide) hLt hkd htq hend hva (by omega) (by omega)) (q0 := 0) rfl rfl rfl rfl (rmK_le (by omega) (by decide)) (Nat.le_of_ble_eq_true rfl) rfl rfl ?_
      rintro _ _ (⟨rfl, rfl, t_44, l_44, d_44⟩ | ⟨rfl, rfl, n_44⟩)
      · refine J_st (.int (b2i true) :: []) rfl ?_
        refine J_ifeqb 91 C iX10_isValue_67 rfl (fun h67 => absurd (h67.symm.trans rfl) (by decide)) (fun h67 => ?_)
        refine J_aload_n C iX10_isValue_70 rfl rfl ?_
        refine J_aload_n C iX10_isValue_71 rfl rfl ?_
        refine J_cV (As := [.ref (pn 0)]) (st := []) (rc2 := (rmK (36 - 4 * d)).cells) (rs2 := (rmK (36 - 4 * d)).slots) C iX10_isValue_72 lm_X10_306 yc_X10_isSum yv_X10_isSum (hsum (e := e) (a := a) (o := o) (g := g) (j := j) d_44 (by omega) (by omega) (fun k h1 h2 => hme k (by omega) h2)) (q0 := 0) rfl rfl rfl rfl (rmK_le (by omega) (by decide)) (Nat.le_of_ble_eq_true rfl) rfl rfl ?_
        rintro _ _ (⟨i45, s45, me45, od45, wi45, al45, e45, a45, o45, g45, j45, rfl, rfl, R45, G45⟩ | ⟨i45, dp45, mn45, me45, od45, wi45, al45, rfl, rfl, hL45, B45⟩)
        · refine J_st (.int (b2i true) :: []) rfl ?_
          have hil45 := G45.il
          have hiL45 := G45.iL
          have hsl45 := G45.sl
          have hss45 := G45.ss
          have hme45 : ∀ k, i45 ≤ k → k ≤ Lt → me45 k = 0 := fun k h1 h2 => (G45.fm k (Or.inr h1)).trans (hme k (by omega) h2)
          refine J_ifeqb 91 C iX10_isValue_75 rfl (fun h75 => absurd (h75.symm.trans rfl) (by decide)) (fun h75 => ?_)
          refine J_aload_n C iX10_isValue_78 rfl rfl ?_
          refine J_bipush 41 C iX10_isValue_79 rfl ?_
          refine J_cV (As := [.int 41]) (st := []) (rc2 := (rmK (36 - 4 * d)).cells) (rs2 := (rmK (36 - 4 * d)).slots) C iX10_isValue_81 lm_X10_296 yc_X10_closes yv_X10_closes (c_X10_closes (d := d) (k := 25) rfl (by decide) (by decide) (by decide) hLt hkd htq hend hva (by omega)) (q0 := 0) rfl rfl rfl rfl (rmK_le (by omega) (by decide)) (Nat.le_of_ble_eq_true rfl) rfl rfl ?_
          rintro _ _ (⟨rfl, rfl, t_46, l_46⟩ | ⟨rfl, rfl, n_46⟩)
          · refine J_st (.int (b2i true) :: []) rfl ?_
            refine J_ifeqb 91 C iX10_isValue_84 rfl (fun h84 => absurd (h84.symm.trans rfl) (by decide)) (fun h84 => ?_)
            refine J_iconst 1 C iX10_isValue_87 rfl ?_
            refine J_goto 92 C iX10_isValue_88 rfl ?_
            exact J_zret C E iX10_isValue_92 rfl (Or.inl ⟨(i45 + 1), s45, me45, od45, wi45, al45, e45, a45, o45, g45, j45, rfl, rfl, by rw [valB, if_neg (now_ne (c := 40) t_44 (by decide)), if_neg (now_ne (c := 11) t_44 (by decide)), if_neg (now_ne (c := 15) t_44 (by decide)), if_neg (now_ne (c := 12) t_44 (by decide)), if_neg (now_ne (c := 13) t_44 (by decide)), if_neg (now_ne (c := 14) t_44 (by decide)), if_neg (now_ne (c := 31) t_44 (by decide)), if_pos (now_eq t_44), deep_ok d_44 t_44, if_neg brk_f, R45, takeC_ok t_46], (G45.post l_46 (hme _ (by omega) (by omega))).pre (hme _ (by omega) (by omega))⟩)
          · refine J_st (.int (b2i false) :: []) rfl ?_
            refine J_ifeqb 91 C iX10_isValue_84 rfl (fun h84 => ?_) (fun h84 => absurd (h84.symm.trans rfl) (by decide))
            refine J_iconst 0 C iX10_isValue_91 rfl ?_
            exact J_zret C E iX10_isValue_92 rfl (Or.inr ⟨i45, nI (d + 1), nI s45, me45, od45, wi45, al45, rfl, rfl, by omega, by rw [valB, if_neg (now_ne (c := 40) t_44 (by decide)), if_neg (now_ne (c := 11) t_44 (by decide)), if_neg (now_ne (c := 15) t_44 (by decide)), if_neg (now_ne (c := 12) t_44 (by decide)), if_neg (now_ne (c := 13) t_44 (by decide)), if_neg (now_ne (c := 14) t_44 (by decide)), if_neg (now_ne (c := 31) t_44 (by decide)), if_pos (now_eq t_44), deep_ok d_44 t_44, if_neg brk_f, R45]; exact Bk.no n_46⟩)
        · refine J_st (.int (b2i false) :: []) rfl ?_
          refine J_ifeqb 91 C iX10_isValue_75 rfl (fun h75 => ?_) (fun h75 => absurd (h75.symm.trans rfl) (by decide))
          refine J_iconst 0 C iX10_isValue_91 rfl ?_
          exact J_zret C E iX10_isValue_92 rfl (Or.inr ⟨i45, dp45, mn45, me45, od45, wi45, al45, rfl, rfl, by omega, by rw [valB, if_neg (now_ne (c := 40) t_44 (by decide)), if_neg (now_ne (c := 11) t_44 (by decide)), if_neg (now_ne (c := 15) t_44 (by decide)), if_neg (now_ne (c := 12) t_44 (by decide)), if_neg (now_ne (c := 13) t_44 (by decide)), if_neg (now_ne (c := 14) t_44 (by decide)), if_neg (now_ne (c := 31) t_44 (by decide)), if_pos (now_eq t_44), deep_ok d_44 t_44, if_neg brk_f]; exact B45.take (by decide)⟩)
      · refine J_st (.int (b2i false) :: []) rfl ?_
        refine J_ifeqb 91 C iX10_isValue_67 rfl (fun h67 => ?_) (fun h67 => absurd (h67.symm.trans rfl) (by decide))
        refine J_iconst 0 C iX10_isValue_91 rfl ?_
        exact J_zret C E iX10_isValue_92 rfl (Or.inr ⟨i, nI d, nI s, me, od, wi, al, rfl, rfl, by omega, by rw [valB, if_neg (now_ne (c := 40) t58 (by decide)), if_neg (now_ne (c := 11) t58 (by decide)), if_neg (now_ne (c := 15) t58 (by decide)), if_neg (now_ne (c := 12) t58 (by decide)), if_neg (now_ne (c := 13) t58 (by decide)), if_neg (now_ne (c := 14) t58 (by decide)), if_neg (now_ne (c := 31) t58 (by decide)), if_pos (now_eq t58), if_pos (Bk.deep n_44).brk]; exact Bk.deep n_44⟩)
  · have t13 : tq i = 31 := (kdT (k := 31) (hkd _ (by omega)) (htq _) (by decide) rfl).mp h13
    refine J_aload_n C iX10_isValue_16 rfl rfl ?_
    refine J_bipush 45 C iX10_isValue_17 rfl ?_
    refine J_cV (As := [.int 45]) (st := []) (rc2 := (rmK (36 - 4 * d)).cells) (rs2 := (rmK (36 - 4 * d)).slots) C iX10_isValue_19 lm_X10_290 yc_X10_deeper yv_X10_deeper (c_X10_deeper (k := 31) rfl (by decide) (by decide) (by decide) hLt hkd htq hend hva (by omega) (by omega)) (q0 := 0) rfl rfl rfl rfl (rmK_le (by omega) (by decide)) (Nat.le_of_ble_eq_true rfl) rfl rfl ?_
    rintro _ _ (⟨rfl, rfl, t_47, l_47, d_47⟩ | ⟨rfl, rfl, n_47⟩)
    · refine J_st (.int (b2i true) :: []) rfl ?_
      refine J_ifeqb 33 C iX10_isValue_22 rfl (fun h22 => absurd (h22.symm.trans rfl) (by decide)) (fun h22 => ?_)
      refine J_aload_n C iX10_isValue_25 rfl rfl ?_
      refine J_aload_n C iX10_isValue_26 rfl rfl ?_
      refine J_cV (As := [.ref (pn 0)]) (st := []) (rc2 := (rmK (36 - 4 * d)).cells) (rs2 := (rmK (36 - 4 * d)).slots) C iX10_isValue_27 lm_X10_312 yc_X10_isValue yv_X10_isValue (hv (e := e) (a := a) (o := o) (g := g) (j := j) d_47 (by omega) (by omega) (fun k h1 h2 => hme k (by omega) h2)) (q0 := 0) rfl rfl rfl rfl (rmK_le (by omega) (by decide)) (Nat.le_of_ble_eq_true rfl) rfl rfl ?_
      rintro _ _ (⟨i48, s48, me48, od48, wi48, al48, e48, a48, o48, g48, j48, rfl, rfl, R48, G48⟩ | ⟨i48, dp48, mn48, me48, od48, wi48, al48, rfl, rfl, hL48, B48⟩)
      · refine J_st (.int (b2i true) :: []) rfl ?_
        have hil48 := G48.il
        have hiL48 := G48.iL
        have hsl48 := G48.sl
        have hss48 := G48.ss
        have hme48 : ∀ k, i48 ≤ k → k ≤ Lt → me48 k = 0 := fun k h1 h2 => (G48.fm k (Or.inr h1)).trans (hme k (by omega) h2)
        refine J_ifneb 35 C iX10_isValue_30 rfl (fun h30 => ?_) (fun h30 => absurd (h30.symm.trans rfl) (by decide))
        refine J_aload_n C iX10_isValue_35 rfl rfl ?_
        refine J_dup C iX10_isValue_36 rfl ?_
        refine J_get (.int (nI (d + 1))) 0 C iX10_isValue_37 gf_X10_269 rfl rfl ?_
        refine J_iconst 1 C iX10_isValue_40 rfl ?_
        refine J_isub C iX10_isValue_41 ?_
        rw [show (nI (d + 1)) - 1 = nI d from nI_dec]
        refine J_put (wMd Z mo pl th sz ea (nI i48) (nI d) lr dy ca kn tp kd fr me48 va wo pc ht fs la kh kf kl sh dk sk ++ wPl Z pn hs ls (nI s48) hn ha hh dz wh bg en od48 wi48 al48) 0 C iX10_isValue_42 pf_X10_269 rfl rfl rfl (Nat.le_of_ble_eq_true rfl) rfl ?_
        refine J_aload_n C iX10_isValue_45 rfl rfl ?_
        refine J_aload_n C iX10_isValue_46 rfl rfl ?_
        refine J_bipush 105 C iX10_isValue_47 rfl ?_
        refine J_iconst 0 C iX10_isValue_49 rfl ?_
        refine J_cV (As := [.ref (pn 0), .int 105, .int 0]) (st := []) (rc2 := (rmK (36 - 4 * d)).cells) (rs2 := (rmK (36 - 4 * d)).slots) C iX10_isValue_50 lm_X10_279 yc_X10_put yv_X10_put (c_X10_put (s := s48) (by omega)) (q0 := 0) rfl rfl rfl rfl (rmK_le (by omega) (by decide)) (Nat.le_of_ble_eq_true rfl) rfl rfl ?_
        rintro _ _ ⟨rfl, rfl⟩
        refine J_st ([]) rfl ?_
        refine J_iconst 1 C iX10_isValue_53 rfl ?_
        exact J_zret C E iX10_isValue_54 rfl (Or.inl ⟨i48, (s48 + 1), me48, upd od48 s48 105, upd wi48 s48 0, al48, e48, a48, upd o48 s48 8, upd g48 s48 0, upd j48 s48 0, rfl, rfl, by rw [valB, if_neg (now_ne (c := 40) t_47 (by decide)), if_neg (now_ne (c := 11) t_47 (by decide)), if_neg (now_ne (c := 15) t_47 (by decide)), if_neg (now_ne (c := 12) t_47 (by decide)), if_neg (now_ne (c := 13) t_47 (by decide)), if_neg (now_ne (c := 14) t_47 (by decide)), if_pos (now_eq t_47), deep_ok d_47 t_47, if_neg brk_f, R48, stepC_lt (by omega)], G48.un (c := 8) (hme _ (by omega) (by omega)) rfl⟩)
      · refine J_st (.int (b2i false) :: []) rfl ?_
        refine J_ifneb 35 C iX10_isValue_30 rfl (fun h30 => absurd (h30.symm.trans rfl) (by decide)) (fun h30 => ?_)
        refine J_iconst 0 C iX10_isValue_33 rfl ?_
        exact J_zret C E iX10_isValue_34 rfl (Or.inr ⟨i48, dp48, mn48, me48, od48, wi48, al48, rfl, rfl, by omega, by rw [valB, if_neg (now_ne (c := 40) t_47 (by decide)), if_neg (now_ne (c := 11) t_47 (by decide)), if_neg (now_ne (c := 15) t_47 (by decide)), if_neg (now_ne (c := 12) t_47 (by decide)), if_neg (now_ne (c := 13) t_47 (by decide)), if_neg (now_ne (c := 14) t_47 (by decide)), if_pos (now_eq t_47), deep_ok d_47 t_47, if_neg brk_f]; exact B48.step⟩)
    · refine J_st (.int (b2i false) :: []) rfl ?_
      refine J_ifeqb 33 C iX10_isValue_22 rfl (fun h22 => ?_) (fun h22 => absurd (h22.symm.trans rfl) (by decide))
      refine J_iconst 0 C iX10_isValue_33 rfl ?_
      exact J_zret C E iX10_isValue_34 rfl (Or.inr ⟨i, nI d, nI s, me, od, wi, al, rfl, rfl, by omega, by rw [valB, if_neg (now_ne (c := 40) t13 (by decide)), if_neg (now_ne (c := 11) t13 (by decide)), if_neg (now_ne (c := 15) t13 (by decide)), if_neg (now_ne (c := 12) t13 (by decide)), if_neg (now_ne (c := 13) t13 (by decide)), if_neg (now_ne (c := 14) t13 (by decide)), if_pos (now_eq t13), if_pos (Bk.deep n_47).brk]; exact Bk.deep n_47⟩)

set_option maxRecDepth 100000 in
set_option maxHeartbeats 4000000 in
theorem c_X10_isProduct {Z : GZ} {l : Launch} {mo pl pn : Nat → Nat} {th sz ea lr dy ca hs ls : Int32} {kn : Bool} {hn va : Nat → Int64} {ha hh dz wh bg en tp kd fr wo pc ht fs la kh kf kl sh dk sk : Nat → Int32} {Lt m : Nat} {tq : Nat → Nat} {sq : Nat → Int32} {vq nm : Nat → Int64} {vv : PS → PS} (hfv : Fro vv) {i s : Nat} {me od wi al : Nat → Int32} {e a : Int32} {o g j : Nat → Int32} {d : Nat} (hLt : Lt ≤ 400) (hkd : ∀ i, i ≤ Lt → kd i = km (tq i)) (htq : ∀ i, tq i < 43) (hend : ∀ i, i ≤ Lt → tq i ≠ 41 → tq i ≠ 42 → i < Lt) (hva : ∀ i, i ≤ Lt → tq i = 39 ∨ tq i = 40 → va i = vq i) (hd : d ≤ 8) (hv : ∀ {i s : Nat} {me od wi al : Nat → Int32} {e a : Int32} {o g j : Nat → Int32}, i ≤ Lt → s ≤ i → (∀ k, i ≤ k → k ≤ Lt → me k = 0) → Ct Z l yX10_isValue cX10_isValue 3 (some .boolean) (rmK (36 - 4 * d)) [.ref (mo 0), .ref (pn 0)] (wMd Z mo pl th sz ea (nI i) (nI d) lr dy ca kn tp kd fr me va wo pc ht fs la kh kf kl sh dk sk ++ wPl Z pn hs ls (nI s) hn ha hh dz wh bg en od wi al) (fun v w => (∃ i2 s2 me2 od2 wi2 al2 e2 a2 o2 g2 j2, v = some (.int (b2i true)) ∧ w = (wMd Z mo pl th sz ea (nI i2) (nI d) lr dy ca kn tp kd fr me2 va wo pc ht fs la kh kf kl sh dk sk ++ wPl Z pn hs ls (nI s2) hn ha hh dz wh bg en od2 wi2 al2) ∧ vv (i, false, e, a, s, o, g, j) = (i2, false, e2, a2, s2, o2, g2, j2) ∧ Gd Lt tq sq vq nm m false i s me od wi al e a o g j i2 s2 me2 od2 wi2 al2 e2 a2 o2 g2 j2) ∨ (∃ i2 dp2 mn2 me2 od2 wi2 al2, v = some (.int (b2i false)) ∧ w = (wMd Z mo pl th sz ea (nI i2) dp2 lr dy ca kn tp kd fr me2 va wo pc ht fs la kh kf kl sh dk sk ++ wPl Z pn hs ls mn2 hn ha hh dz wh bg en od2 wi2 al2) ∧ i2 ≤ Lt ∧ Bk (vv (i, false, e, a, s, o, g, j)) i2 (sq i2)))) (hi : i ≤ Lt) (hs_ : s ≤ i) (hme : ∀ k, i ≤ k → k ≤ Lt → me k = 0)  : Ct Z l yX10_isProduct cX10_isProduct 3 (some .boolean) (rmK (37 - 4 * d)) [.ref (mo 0), .ref (pn 0)] (wMd Z mo pl th sz ea (nI i) (nI d) lr dy ca kn tp kd fr me va wo pc ht fs la kh kf kl sh dk sk ++ wPl Z pn hs ls (nI s) hn ha hh dz wh bg en od wi al) (fun v w => (∃ i2 s2 me2 od2 wi2 al2 e2 a2 o2 g2 j2, v = some (.int (b2i true)) ∧ w = (wMd Z mo pl th sz ea (nI i2) (nI d) lr dy ca kn tp kd fr me2 va wo pc ht fs la kh kf kl sh dk sk ++ wPl Z pn hs ls (nI s2) hn ha hh dz wh bg en od2 wi2 al2) ∧ prodC tq sq vv (i, false, e, a, s, o, g, j) = (i2, false, e2, a2, s2, o2, g2, j2) ∧ Gd Lt tq sq vq nm m false i s me od wi al e a o g j i2 s2 me2 od2 wi2 al2 e2 a2 o2 g2 j2) ∨ (∃ i2 dp2 mn2 me2 od2 wi2 al2, v = some (.int (b2i false)) ∧ w = (wMd Z mo pl th sz ea (nI i2) dp2 lr dy ca kn tp kd fr me2 va wo pc ht fs la kh kf kl sh dk sk ++ wPl Z pn hs ls mn2 hn ha hh dz wh bg en od2 wi2 al2) ∧ i2 ≤ Lt ∧ Bk (prodC tq sq vv (i, false, e, a, s, o, g, j)) i2 (sq i2))) := by
  refine Ct.ofJ (own := RX10) (nm := "isProduct") (lv0 := [(0, .ref (mo 0)), (1, .ref (pn 0))]) (by decide) rfl rfl (Nat.le_of_ble_eq_true rfl) rfl (fun X hXl C E => ?_)
  subst hXl
  refine J_aload_n C iX10_isProduct_0 rfl rfl ?_
  refine J_aload_n C iX10_isProduct_1 rfl rfl ?_
  refine J_cV (As := [.ref (pn 0)]) (st := []) (rc2 := (rmK (37 - 4 * d)).cells) (rs2 := (rmK (37 - 4 * d)).slots) C iX10_isProduct_2 lm_X10_312 yc_X10_isValue yv_X10_isValue (hv (e := e) (a := a) (o := o) (g := g) (j := j) (by omega) (by omega) (fun k h1 h2 => hme k (by omega) h2)) (q0 := 0) rfl rfl rfl rfl (rmK_le (by omega) (by decide)) (Nat.le_of_ble_eq_true rfl) rfl rfl ?_
  rintro _ _ (⟨i49, s49, me49, od49, wi49, al49, e49, a49, o49, g49, j49, rfl, rfl, R49, G49⟩ | ⟨i49, dp49, mn49, me49, od49, wi49, al49, rfl, rfl, hL49, B49⟩)
  · refine J_st (.int (b2i true) :: []) rfl ?_
    have hil49 := G49.il
    have hiL49 := G49.iL
    have hsl49 := G49.sl
    have hss49 := G49.ss
    have hme49 : ∀ k, i49 ≤ k → k ≤ Lt → me49 k = 0 := fun k h1 h2 => (G49.fm k (Or.inr h1)).trans (hme k (by omega) h2)
    refine J_ifneb 10 C iX10_isProduct_5 rfl (fun h5 => ?_) (fun h5 => absurd (h5.symm.trans rfl) (by decide))
    refine J_lvm [(0, .ref (mo 0)), (1, .ref (pn 0))] (by rfl) ?_
    refine J_whl (σ := Nat × Nat × (Nat → Int32) × (Nat → Int32) × (Nat → Int32) × (Nat → Int32) × Int32 × Int32 × (Nat → Int32) × (Nat → Int32) × (Nat → Int32) × Nat) (fun q => [(0, .ref (mo 0)), (1, .ref (pn 0))]) (fun q => (wMd Z mo pl th sz ea (nI q.1) (nI d) lr dy ca kn tp kd fr q.2.2.1 va wo pc ht fs la kh kf kl sh dk sk ++ wPl Z pn hs ls (nI q.2.1) hn ha hh dz wh bg en q.2.2.2.1 q.2.2.2.2.1 q.2.2.2.2.2.1)) (fun q => (loopC tq sq 32 33 12 13 (vv) q.2.2.2.2.2.2.2.2.2.2.2 (q.1, false, q.2.2.2.2.2.2.1, q.2.2.2.2.2.2.2.1, q.2.1, q.2.2.2.2.2.2.2.2.1, q.2.2.2.2.2.2.2.2.2.1, q.2.2.2.2.2.2.2.2.2.2.1) = prodC tq sq vv (i, false, e, a, s, o, g, j)) ∧ 400 ≤ q.2.2.2.2.2.2.2.2.2.2.2 + q.1 ∧ Gd Lt tq sq vq nm m false i s me od wi al e a o g j q.1 q.2.1 q.2.2.1 q.2.2.2.1 q.2.2.2.2.1 q.2.2.2.2.2.1 q.2.2.2.2.2.2.1 q.2.2.2.2.2.2.2.1 q.2.2.2.2.2.2.2.2.1 q.2.2.2.2.2.2.2.2.2.1 q.2.2.2.2.2.2.2.2.2.2.1) (fun q => Lt - q.1) (i49, s49, me49, od49, wi49, al49, e49, a49, o49, g49, j49, 400) ⟨by rw [prodC, R49], by dsimp only; omega, G49⟩ ?_
    rintro ⟨i50, s50, me50, od50, wi50, al50, e50, a50, o50, g50, j50, f50⟩ ⟨hL50, hf50, G50⟩ ih50
    dsimp only at hL50 hf50 G50 ih50 ⊢
    have hil50 := G50.il
    have hiL50 := G50.iL
    have hsl50 := G50.sl
    have hss50 := G50.ss
    have hme50 : ∀ k, i50 ≤ k → k ≤ Lt → me50 k = 0 := fun k h1 h2 => (G50.fm k (Or.inr h1)).trans (hme k (by omega) h2)
    refine J_aload_n C iX10_isProduct_10 rfl rfl ?_
    refine J_get (.ref (mo 2)) 0 C iX10_isProduct_11 gf_X10_24 rfl rfl ?_
    refine J_aload_n C iX10_isProduct_14 rfl rfl ?_
    refine J_get (.int (nI i50)) 0 C iX10_isProduct_15 gf_X10_263 rfl rfl ?_
    refine J_iald 2 C iX10_isProduct_18 rfl (vp_in_nI (n := i50) (by omega) (by decide)) ?_
    rw [nI_clamp (n := i50) (by omega)]
    refine J_bipush 42 C iX10_isProduct_19 rfl ?_
    refine J_icmpeq 38 C iX10_isProduct_21 rfl (fun h21 => ?_) (fun h21 => ?_)
    · have t21 : tq i50 = 32 := (kdT (k := 32) (hkd _ (by omega)) (htq _) (by decide) rfl).mp h21
      refine J_aload_n C iX10_isProduct_38 rfl rfl ?_
      refine J_get (.ref (mo 2)) 0 C iX10_isProduct_39 gf_X10_24 rfl rfl ?_
      refine J_aload_n C iX10_isProduct_42 rfl rfl ?_
      refine J_get (.int (nI i50)) 0 C iX10_isProduct_43 gf_X10_263 rfl rfl ?_
      refine J_iald 2 C iX10_isProduct_46 rfl (vp_in_nI (n := i50) (by omega) (by decide)) ?_
      rw [nI_clamp (n := i50) (by omega)]
      refine J_bipush 42 C iX10_isProduct_47 rfl ?_
      refine J_icmpne 57 C iX10_isProduct_49 rfl (fun h49 => absurd h21 h49) (fun h49 => ?_)
      refine J_bipush 103 C iX10_isProduct_52 rfl ?_
      refine J_goto 59 C iX10_isProduct_54 rfl ?_
      refine J_istore_n [(2, .int 103), (0, .ref (mo 0)), (1, .ref (pn 0))] C iX10_isProduct_59 rfl (by decide) rfl ?_
      have hl50 : i50 < Lt := hend i50 (by omega) (by rw [t21]; decide) (by rw [t21]; decide)
      refine J_aload_n C iX10_isProduct_60 rfl rfl ?_
      refine J_dup C iX10_isProduct_61 rfl ?_
      refine J_get (.int (nI i50)) 0 C iX10_isProduct_62 gf_X10_263 rfl rfl ?_
      refine J_iconst 1 C iX10_isProduct_65 rfl ?_
      refine J_iadd C iX10_isProduct_66 ?_
      rw [show (nI i50) + 1 = nI (i50 + 1) from nI_add _ _]
      refine J_put (wMd Z mo pl th sz ea (nI (i50 + 1)) (nI d) lr dy ca kn tp kd fr me50 va wo pc ht fs la kh kf kl sh dk sk ++ wPl Z pn hs ls (nI s50) hn ha hh dz wh bg en od50 wi50 al50) 0 C iX10_isProduct_67 pf_X10_263 rfl rfl rfl (Nat.le_of_ble_eq_true rfl) rfl ?_
      refine J_aload_n C iX10_isProduct_70 rfl rfl ?_
      refine J_aload_n C iX10_isProduct_71 rfl rfl ?_
      refine J_cV (As := [.ref (pn 0)]) (st := []) (rc2 := (rmK (37 - 4 * d)).cells) (rs2 := (rmK (37 - 4 * d)).slots) C iX10_isProduct_72 lm_X10_312 yc_X10_isValue yv_X10_isValue (hv (e := e50) (a := a50) (o := o50) (g := g50) (j := j50) (by omega) (by omega) (fun k h1 h2 => hme50 k (by omega) h2)) (q0 := 0) rfl rfl rfl rfl (rmK_le (by omega) (by decide)) (Nat.le_of_ble_eq_true rfl) rfl rfl ?_
      rintro _ _ (⟨i51, s51, me51, od51, wi51, al51, e51, a51, o51, g51, j51, rfl, rfl, R51, G51⟩ | ⟨i51, dp51, mn51, me51, od51, wi51, al51, rfl, rfl, hL51, B51⟩)
      · refine J_st (.int (b2i true) :: []) rfl ?_
        have hil51 := G51.il
        have hiL51 := G51.iL
        have hsl51 := G51.sl
        have hss51 := G51.ss
        have hme51 : ∀ k, i51 ≤ k → k ≤ Lt → me51 k = 0 := fun k h1 h2 => (G51.fm k (Or.inr h1)).trans (hme50 k (by omega) h2)
        refine J_ifneb 80 C iX10_isProduct_75 rfl (fun h75 => ?_) (fun h75 => absurd (h75.symm.trans rfl) (by decide))
        refine J_aload_n C iX10_isProduct_80 rfl rfl ?_
        refine J_aload_n C iX10_isProduct_81 rfl rfl ?_
        refine J_iload_n C iX10_isProduct_82 rfl rfl ?_
        refine J_iconst 0 C iX10_isProduct_83 rfl ?_
        refine J_cV (As := [.ref (pn 0), .int 103, .int 0]) (st := []) (rc2 := (rmK (37 - 4 * d)).cells) (rs2 := (rmK (37 - 4 * d)).slots) C iX10_isProduct_84 lm_X10_279 yc_X10_put yv_X10_put (c_X10_put (s := s51) (by omega)) (q0 := 0) rfl rfl rfl rfl (rmK_le (by omega) (by decide)) (Nat.le_of_ble_eq_true rfl) rfl rfl ?_
        rintro _ _ ⟨rfl, rfl⟩
        refine J_st ([]) rfl ?_
        refine J_goto 10 C iX10_isProduct_87 rfl ?_
        refine J_lvm [(0, .ref (mo 0)), (1, .ref (pn 0))] (by rfl) ?_
        exact ih50 (i51, (s51 + 1), me51, upd od51 s51 103, upd wi51 s51 0, al51, e51, a51, upd o51 s51 12, upd g51 s51 0, upd j51 s51 0, f50 - 1) ⟨by rw [← hL50, loopC_go1 (by omega) (now_eq t21), takeC_ok t21, R51, stepC_lt (by omega)], by dsimp only; omega, G50.bin (c := 12) G51 (hme _ (by omega) (by omega)) (Or.inl ⟨rfl, rfl, by decide, by decide⟩)⟩ (by dsimp only; omega)
      · refine J_st (.int (b2i false) :: []) rfl ?_
        refine J_ifneb 80 C iX10_isProduct_75 rfl (fun h75 => absurd (h75.symm.trans rfl) (by decide)) (fun h75 => ?_)
        refine J_iconst 0 C iX10_isProduct_78 rfl ?_
        exact J_zret C E iX10_isProduct_79 rfl (Or.inr ⟨i51, dp51, mn51, me51, od51, wi51, al51, rfl, rfl, by omega, by rw [← hL50, loopC_go1 (by omega) (now_eq t21), takeC_ok t21]; exact B51.step.lpC (by decide) (by decide)⟩)
    · have n21 : tq i50 ≠ 32 := fun z => h21 ((kdT (k := 32) (hkd _ (by omega)) (htq _) (by decide) rfl).mpr z)
      refine J_aload_n C iX10_isProduct_24 rfl rfl ?_
      refine J_get (.ref (mo 2)) 0 C iX10_isProduct_25 gf_X10_24 rfl rfl ?_
      refine J_aload_n C iX10_isProduct_28 rfl rfl ?_
      refine J_get (.int (nI i50)) 0 C iX10_isProduct_29 gf_X10_263 rfl rfl ?_
      refine J_iald 2 C iX10_isProduct_32 rfl (vp_in_nI (n := i50) (by omega) (by decide)) ?_
      rw [nI_clamp (n := i50) (by omega)]
      refine J_bipush 47 C iX10_isProduct_33 rfl ?_
      refine J_icmpne 90 C iX10_isProduct_35 rfl (fun h35 => ?_) (fun h35 => ?_)
      · have n35 : tq i50 ≠ 33 := fun z => h35 ((kdT (k := 33) (hkd _ (by omega)) (htq _) (by decide) rfl).mpr z)
        refine J_iconst 1 C iX10_isProduct_90 rfl ?_
        exact J_zret C E iX10_isProduct_91 rfl (Or.inl ⟨i50, s50, me50, od50, wi50, al50, e50, a50, o50, g50, j50, rfl, rfl, by rw [← hL50, loopC_out (now_nn n21) (now_nn n35)], G50⟩)
      · have t35 : tq i50 = 33 := (kdT (k := 33) (hkd _ (by omega)) (htq _) (by decide) rfl).mp h35
        refine J_aload_n C iX10_isProduct_38 rfl rfl ?_
        refine J_get (.ref (mo 2)) 0 C iX10_isProduct_39 gf_X10_24 rfl rfl ?_
        refine J_aload_n C iX10_isProduct_42 rfl rfl ?_
        refine J_get (.int (nI i50)) 0 C iX10_isProduct_43 gf_X10_263 rfl rfl ?_
        refine J_iald 2 C iX10_isProduct_46 rfl (vp_in_nI (n := i50) (by omega) (by decide)) ?_
        rw [nI_clamp (n := i50) (by omega)]
        refine J_bipush 42 C iX10_isProduct_47 rfl ?_
        refine J_icmpne 57 C iX10_isProduct_49 rfl (fun h49 => ?_) (fun h49 => absurd h49 h21)
        refine J_bipush 104 C iX10_isProduct_57 rfl ?_
        refine J_istore_n [(2, .int 104), (0, .ref (mo 0)), (1, .ref (pn 0))] C iX10_isProduct_59 rfl (by decide) rfl ?_
        have hl50 : i50 < Lt := hend i50 (by omega) (by rw [t35]; decide) (by rw [t35]; decide)
        refine J_aload_n C iX10_isProduct_60 rfl rfl ?_
        refine J_dup C iX10_isProduct_61 rfl ?_
        refine J_get (.int (nI i50)) 0 C iX10_isProduct_62 gf_X10_263 rfl rfl ?_
        refine J_iconst 1 C iX10_isProduct_65 rfl ?_
        refine J_iadd C iX10_isProduct_66 ?_
        rw [show (nI i50) + 1 = nI (i50 + 1) from nI_add _ _]
        refine J_put (wMd Z mo pl th sz ea (nI (i50 + 1)) (nI d) lr dy ca kn tp kd fr me50 va wo pc ht fs la kh kf kl sh dk sk ++ wPl Z pn hs ls (nI s50) hn ha hh dz wh bg en od50 wi50 al50) 0 C iX10_isProduct_67 pf_X10_263 rfl rfl rfl (Nat.le_of_ble_eq_true rfl) rfl ?_
        refine J_aload_n C iX10_isProduct_70 rfl rfl ?_
        refine J_aload_n C iX10_isProduct_71 rfl rfl ?_
        refine J_cV (As := [.ref (pn 0)]) (st := []) (rc2 := (rmK (37 - 4 * d)).cells) (rs2 := (rmK (37 - 4 * d)).slots) C iX10_isProduct_72 lm_X10_312 yc_X10_isValue yv_X10_isValue (hv (e := e50) (a := a50) (o := o50) (g := g50) (j := j50) (by omega) (by omega) (fun k h1 h2 => hme50 k (by omega) h2)) (q0 := 0) rfl rfl rfl rfl (rmK_le (by omega) (by decide)) (Nat.le_of_ble_eq_true rfl) rfl rfl ?_
        rintro _ _ (⟨i52, s52, me52, od52, wi52, al52, e52, a52, o52, g52, j52, rfl, rfl, R52, G52⟩ | ⟨i52, dp52, mn52, me52, od52, wi52, al52, rfl, rfl, hL52, B52⟩)
        · refine J_st (.int (b2i true) :: []) rfl ?_
          have hil52 := G52.il
          have hiL52 := G52.iL
          have hsl52 := G52.sl
          have hss52 := G52.ss
          have hme52 : ∀ k, i52 ≤ k → k ≤ Lt → me52 k = 0 := fun k h1 h2 => (G52.fm k (Or.inr h1)).trans (hme50 k (by omega) h2)
          refine J_ifneb 80 C iX10_isProduct_75 rfl (fun h75 => ?_) (fun h75 => absurd (h75.symm.trans rfl) (by decide))
          refine J_aload_n C iX10_isProduct_80 rfl rfl ?_
          refine J_aload_n C iX10_isProduct_81 rfl rfl ?_
          refine J_iload_n C iX10_isProduct_82 rfl rfl ?_
          refine J_iconst 0 C iX10_isProduct_83 rfl ?_
          refine J_cV (As := [.ref (pn 0), .int 104, .int 0]) (st := []) (rc2 := (rmK (37 - 4 * d)).cells) (rs2 := (rmK (37 - 4 * d)).slots) C iX10_isProduct_84 lm_X10_279 yc_X10_put yv_X10_put (c_X10_put (s := s52) (by omega)) (q0 := 0) rfl rfl rfl rfl (rmK_le (by omega) (by decide)) (Nat.le_of_ble_eq_true rfl) rfl rfl ?_
          rintro _ _ ⟨rfl, rfl⟩
          refine J_st ([]) rfl ?_
          refine J_goto 10 C iX10_isProduct_87 rfl ?_
          refine J_lvm [(0, .ref (mo 0)), (1, .ref (pn 0))] (by rfl) ?_
          exact ih50 (i52, (s52 + 1), me52, upd od52 s52 104, upd wi52 s52 0, al52, e52, a52, upd o52 s52 13, upd g52 s52 0, upd j52 s52 0, f50 - 1) ⟨by rw [← hL50, loopC_go2 (by omega) (now_eq t35) (by decide), takeC_ok t35, R52, stepC_lt (by omega)], by dsimp only; omega, G50.bin (c := 13) G52 (hme _ (by omega) (by omega)) (Or.inl ⟨rfl, rfl, by decide, by decide⟩)⟩ (by dsimp only; omega)
        · refine J_st (.int (b2i false) :: []) rfl ?_
          refine J_ifneb 80 C iX10_isProduct_75 rfl (fun h75 => absurd (h75.symm.trans rfl) (by decide)) (fun h75 => ?_)
          refine J_iconst 0 C iX10_isProduct_78 rfl ?_
          exact J_zret C E iX10_isProduct_79 rfl (Or.inr ⟨i52, dp52, mn52, me52, od52, wi52, al52, rfl, rfl, by omega, by rw [← hL50, loopC_go2 (by omega) (now_eq t35) (by decide), takeC_ok t35]; exact B52.step.lpC (by decide) (by decide)⟩)
  · refine J_st (.int (b2i false) :: []) rfl ?_
    refine J_ifneb 10 C iX10_isProduct_5 rfl (fun h5 => absurd (h5.symm.trans rfl) (by decide)) (fun h5 => ?_)
    refine J_iconst 0 C iX10_isProduct_8 rfl ?_
    exact J_zret C E iX10_isProduct_9 rfl (Or.inr ⟨i49, dp49, mn49, me49, od49, wi49, al49, rfl, rfl, by omega, by rw [prodC]; exact B49.lpC (by decide) (by decide)⟩)

set_option maxRecDepth 100000 in
set_option maxHeartbeats 4000000 in
theorem c_X10_isSum {Z : GZ} {l : Launch} {mo pl pn : Nat → Nat} {th sz ea lr dy ca hs ls : Int32} {kn : Bool} {hn va : Nat → Int64} {ha hh dz wh bg en tp kd fr wo pc ht fs la kh kf kl sh dk sk : Nat → Int32} {Lt m : Nat} {tq : Nat → Nat} {sq : Nat → Int32} {vq nm : Nat → Int64} {vv : PS → PS} (hfv : Fro vv) {i s : Nat} {me od wi al : Nat → Int32} {e a : Int32} {o g j : Nat → Int32} {d : Nat} (hLt : Lt ≤ 400) (hkd : ∀ i, i ≤ Lt → kd i = km (tq i)) (htq : ∀ i, tq i < 43) (hend : ∀ i, i ≤ Lt → tq i ≠ 41 → tq i ≠ 42 → i < Lt) (hva : ∀ i, i ≤ Lt → tq i = 39 ∨ tq i = 40 → va i = vq i) (hd : d ≤ 8) (hv : ∀ {i s : Nat} {me od wi al : Nat → Int32} {e a : Int32} {o g j : Nat → Int32}, i ≤ Lt → s ≤ i → (∀ k, i ≤ k → k ≤ Lt → me k = 0) → Ct Z l yX10_isProduct cX10_isProduct 3 (some .boolean) (rmK (37 - 4 * d)) [.ref (mo 0), .ref (pn 0)] (wMd Z mo pl th sz ea (nI i) (nI d) lr dy ca kn tp kd fr me va wo pc ht fs la kh kf kl sh dk sk ++ wPl Z pn hs ls (nI s) hn ha hh dz wh bg en od wi al) (fun v w => (∃ i2 s2 me2 od2 wi2 al2 e2 a2 o2 g2 j2, v = some (.int (b2i true)) ∧ w = (wMd Z mo pl th sz ea (nI i2) (nI d) lr dy ca kn tp kd fr me2 va wo pc ht fs la kh kf kl sh dk sk ++ wPl Z pn hs ls (nI s2) hn ha hh dz wh bg en od2 wi2 al2) ∧ prodC tq sq vv (i, false, e, a, s, o, g, j) = (i2, false, e2, a2, s2, o2, g2, j2) ∧ Gd Lt tq sq vq nm m false i s me od wi al e a o g j i2 s2 me2 od2 wi2 al2 e2 a2 o2 g2 j2) ∨ (∃ i2 dp2 mn2 me2 od2 wi2 al2, v = some (.int (b2i false)) ∧ w = (wMd Z mo pl th sz ea (nI i2) dp2 lr dy ca kn tp kd fr me2 va wo pc ht fs la kh kf kl sh dk sk ++ wPl Z pn hs ls mn2 hn ha hh dz wh bg en od2 wi2 al2) ∧ i2 ≤ Lt ∧ Bk (prodC tq sq vv (i, false, e, a, s, o, g, j)) i2 (sq i2)))) (hi : i ≤ Lt) (hs_ : s ≤ i) (hme : ∀ k, i ≤ k → k ≤ Lt → me k = 0)  : Ct Z l yX10_isSum cX10_isSum 3 (some .boolean) (rmK (38 - 4 * d)) [.ref (mo 0), .ref (pn 0)] (wMd Z mo pl th sz ea (nI i) (nI d) lr dy ca kn tp kd fr me va wo pc ht fs la kh kf kl sh dk sk ++ wPl Z pn hs ls (nI s) hn ha hh dz wh bg en od wi al) (fun v w => (∃ i2 s2 me2 od2 wi2 al2 e2 a2 o2 g2 j2, v = some (.int (b2i true)) ∧ w = (wMd Z mo pl th sz ea (nI i2) (nI d) lr dy ca kn tp kd fr me2 va wo pc ht fs la kh kf kl sh dk sk ++ wPl Z pn hs ls (nI s2) hn ha hh dz wh bg en od2 wi2 al2) ∧ sumC tq sq vv (i, false, e, a, s, o, g, j) = (i2, false, e2, a2, s2, o2, g2, j2) ∧ Gd Lt tq sq vq nm m false i s me od wi al e a o g j i2 s2 me2 od2 wi2 al2 e2 a2 o2 g2 j2) ∨ (∃ i2 dp2 mn2 me2 od2 wi2 al2, v = some (.int (b2i false)) ∧ w = (wMd Z mo pl th sz ea (nI i2) dp2 lr dy ca kn tp kd fr me2 va wo pc ht fs la kh kf kl sh dk sk ++ wPl Z pn hs ls mn2 hn ha hh dz wh bg en od2 wi2 al2) ∧ i2 ≤ Lt ∧ Bk (sumC tq sq vv (i, false, e, a, s, o, g, j)) i2 (sq i2))) := by
  refine Ct.ofJ (own := RX10) (nm := "isSum") (lv0 := [(0, .ref (mo 0)), (1, .ref (pn 0))]) (by decide) rfl rfl (Nat.le_of_ble_eq_true rfl) rfl (fun X hXl C E => ?_)
  subst hXl
  refine J_aload_n C iX10_isSum_0 rfl rfl ?_
  refine J_aload_n C iX10_isSum_1 rfl rfl ?_
  refine J_cV (As := [.ref (pn 0)]) (st := []) (rc2 := (rmK (38 - 4 * d)).cells) (rs2 := (rmK (38 - 4 * d)).slots) C iX10_isSum_2 lm_X10_309 yc_X10_isProduct yv_X10_isProduct (hv (e := e) (a := a) (o := o) (g := g) (j := j) (by omega) (by omega) (fun k h1 h2 => hme k (by omega) h2)) (q0 := 0) rfl rfl rfl rfl (rmK_le (by omega) (by decide)) (Nat.le_of_ble_eq_true rfl) rfl rfl ?_
  rintro _ _ (⟨i53, s53, me53, od53, wi53, al53, e53, a53, o53, g53, j53, rfl, rfl, R53, G53⟩ | ⟨i53, dp53, mn53, me53, od53, wi53, al53, rfl, rfl, hL53, B53⟩)
  · refine J_st (.int (b2i true) :: []) rfl ?_
    have hil53 := G53.il
    have hiL53 := G53.iL
    have hsl53 := G53.sl
    have hss53 := G53.ss
    have hme53 : ∀ k, i53 ≤ k → k ≤ Lt → me53 k = 0 := fun k h1 h2 => (G53.fm k (Or.inr h1)).trans (hme k (by omega) h2)
    refine J_ifneb 10 C iX10_isSum_5 rfl (fun h5 => ?_) (fun h5 => absurd (h5.symm.trans rfl) (by decide))
    refine J_lvm [(0, .ref (mo 0)), (1, .ref (pn 0))] (by rfl) ?_
    refine J_whl (σ := Nat × Nat × (Nat → Int32) × (Nat → Int32) × (Nat → Int32) × (Nat → Int32) × Int32 × Int32 × (Nat → Int32) × (Nat → Int32) × (Nat → Int32) × Nat) (fun q => [(0, .ref (mo 0)), (1, .ref (pn 0))]) (fun q => (wMd Z mo pl th sz ea (nI q.1) (nI d) lr dy ca kn tp kd fr q.2.2.1 va wo pc ht fs la kh kf kl sh dk sk ++ wPl Z pn hs ls (nI q.2.1) hn ha hh dz wh bg en q.2.2.2.1 q.2.2.2.2.1 q.2.2.2.2.2.1)) (fun q => (loopC tq sq 30 31 10 11 (prodC tq sq vv) q.2.2.2.2.2.2.2.2.2.2.2 (q.1, false, q.2.2.2.2.2.2.1, q.2.2.2.2.2.2.2.1, q.2.1, q.2.2.2.2.2.2.2.2.1, q.2.2.2.2.2.2.2.2.2.1, q.2.2.2.2.2.2.2.2.2.2.1) = sumC tq sq vv (i, false, e, a, s, o, g, j)) ∧ 400 ≤ q.2.2.2.2.2.2.2.2.2.2.2 + q.1 ∧ Gd Lt tq sq vq nm m false i s me od wi al e a o g j q.1 q.2.1 q.2.2.1 q.2.2.2.1 q.2.2.2.2.1 q.2.2.2.2.2.1 q.2.2.2.2.2.2.1 q.2.2.2.2.2.2.2.1 q.2.2.2.2.2.2.2.2.1 q.2.2.2.2.2.2.2.2.2.1 q.2.2.2.2.2.2.2.2.2.2.1) (fun q => Lt - q.1) (i53, s53, me53, od53, wi53, al53, e53, a53, o53, g53, j53, 400) ⟨by rw [sumC, R53], by dsimp only; omega, G53⟩ ?_
    rintro ⟨i54, s54, me54, od54, wi54, al54, e54, a54, o54, g54, j54, f54⟩ ⟨hL54, hf54, G54⟩ ih54
    dsimp only at hL54 hf54 G54 ih54 ⊢
    have hil54 := G54.il
    have hiL54 := G54.iL
    have hsl54 := G54.sl
    have hss54 := G54.ss
    have hme54 : ∀ k, i54 ≤ k → k ≤ Lt → me54 k = 0 := fun k h1 h2 => (G54.fm k (Or.inr h1)).trans (hme k (by omega) h2)
    refine J_aload_n C iX10_isSum_10 rfl rfl ?_
    refine J_get (.ref (mo 2)) 0 C iX10_isSum_11 gf_X10_24 rfl rfl ?_
    refine J_aload_n C iX10_isSum_14 rfl rfl ?_
    refine J_get (.int (nI i54)) 0 C iX10_isSum_15 gf_X10_263 rfl rfl ?_
    refine J_iald 2 C iX10_isSum_18 rfl (vp_in_nI (n := i54) (by omega) (by decide)) ?_
    rw [nI_clamp (n := i54) (by omega)]
    refine J_bipush 43 C iX10_isSum_19 rfl ?_
    refine J_icmpeq 38 C iX10_isSum_21 rfl (fun h21 => ?_) (fun h21 => ?_)
    · have t21 : tq i54 = 30 := (kdT (k := 30) (hkd _ (by omega)) (htq _) (by decide) rfl).mp h21
      refine J_aload_n C iX10_isSum_38 rfl rfl ?_
      refine J_get (.ref (mo 2)) 0 C iX10_isSum_39 gf_X10_24 rfl rfl ?_
      refine J_aload_n C iX10_isSum_42 rfl rfl ?_
      refine J_get (.int (nI i54)) 0 C iX10_isSum_43 gf_X10_263 rfl rfl ?_
      refine J_iald 2 C iX10_isSum_46 rfl (vp_in_nI (n := i54) (by omega) (by decide)) ?_
      rw [nI_clamp (n := i54) (by omega)]
      refine J_bipush 43 C iX10_isSum_47 rfl ?_
      refine J_icmpne 57 C iX10_isSum_49 rfl (fun h49 => absurd h21 h49) (fun h49 => ?_)
      refine J_bipush 101 C iX10_isSum_52 rfl ?_
      refine J_goto 59 C iX10_isSum_54 rfl ?_
      refine J_istore_n [(2, .int 101), (0, .ref (mo 0)), (1, .ref (pn 0))] C iX10_isSum_59 rfl (by decide) rfl ?_
      have hl54 : i54 < Lt := hend i54 (by omega) (by rw [t21]; decide) (by rw [t21]; decide)
      refine J_aload_n C iX10_isSum_60 rfl rfl ?_
      refine J_dup C iX10_isSum_61 rfl ?_
      refine J_get (.int (nI i54)) 0 C iX10_isSum_62 gf_X10_263 rfl rfl ?_
      refine J_iconst 1 C iX10_isSum_65 rfl ?_
      refine J_iadd C iX10_isSum_66 ?_
      rw [show (nI i54) + 1 = nI (i54 + 1) from nI_add _ _]
      refine J_put (wMd Z mo pl th sz ea (nI (i54 + 1)) (nI d) lr dy ca kn tp kd fr me54 va wo pc ht fs la kh kf kl sh dk sk ++ wPl Z pn hs ls (nI s54) hn ha hh dz wh bg en od54 wi54 al54) 0 C iX10_isSum_67 pf_X10_263 rfl rfl rfl (Nat.le_of_ble_eq_true rfl) rfl ?_
      refine J_aload_n C iX10_isSum_70 rfl rfl ?_
      refine J_aload_n C iX10_isSum_71 rfl rfl ?_
      refine J_cV (As := [.ref (pn 0)]) (st := []) (rc2 := (rmK (38 - 4 * d)).cells) (rs2 := (rmK (38 - 4 * d)).slots) C iX10_isSum_72 lm_X10_309 yc_X10_isProduct yv_X10_isProduct (hv (e := e54) (a := a54) (o := o54) (g := g54) (j := j54) (by omega) (by omega) (fun k h1 h2 => hme54 k (by omega) h2)) (q0 := 0) rfl rfl rfl rfl (rmK_le (by omega) (by decide)) (Nat.le_of_ble_eq_true rfl) rfl rfl ?_
      rintro _ _ (⟨i55, s55, me55, od55, wi55, al55, e55, a55, o55, g55, j55, rfl, rfl, R55, G55⟩ | ⟨i55, dp55, mn55, me55, od55, wi55, al55, rfl, rfl, hL55, B55⟩)
      · refine J_st (.int (b2i true) :: []) rfl ?_
        have hil55 := G55.il
        have hiL55 := G55.iL
        have hsl55 := G55.sl
        have hss55 := G55.ss
        have hme55 : ∀ k, i55 ≤ k → k ≤ Lt → me55 k = 0 := fun k h1 h2 => (G55.fm k (Or.inr h1)).trans (hme54 k (by omega) h2)
        refine J_ifneb 80 C iX10_isSum_75 rfl (fun h75 => ?_) (fun h75 => absurd (h75.symm.trans rfl) (by decide))
        refine J_aload_n C iX10_isSum_80 rfl rfl ?_
        refine J_aload_n C iX10_isSum_81 rfl rfl ?_
        refine J_iload_n C iX10_isSum_82 rfl rfl ?_
        refine J_iconst 0 C iX10_isSum_83 rfl ?_
        refine J_cV (As := [.ref (pn 0), .int 101, .int 0]) (st := []) (rc2 := (rmK (38 - 4 * d)).cells) (rs2 := (rmK (38 - 4 * d)).slots) C iX10_isSum_84 lm_X10_279 yc_X10_put yv_X10_put (c_X10_put (s := s55) (by omega)) (q0 := 0) rfl rfl rfl rfl (rmK_le (by omega) (by decide)) (Nat.le_of_ble_eq_true rfl) rfl rfl ?_
        rintro _ _ ⟨rfl, rfl⟩
        refine J_st ([]) rfl ?_
        refine J_goto 10 C iX10_isSum_87 rfl ?_
        refine J_lvm [(0, .ref (mo 0)), (1, .ref (pn 0))] (by rfl) ?_
        exact ih54 (i55, (s55 + 1), me55, upd od55 s55 101, upd wi55 s55 0, al55, e55, a55, upd o55 s55 10, upd g55 s55 0, upd j55 s55 0, f54 - 1) ⟨by rw [← hL54, loopC_go1 (by omega) (now_eq t21), takeC_ok t21, R55, stepC_lt (by omega)], by dsimp only; omega, G54.bin (c := 10) G55 (hme _ (by omega) (by omega)) (Or.inl ⟨rfl, rfl, by decide, by decide⟩)⟩ (by dsimp only; omega)
      · refine J_st (.int (b2i false) :: []) rfl ?_
        refine J_ifneb 80 C iX10_isSum_75 rfl (fun h75 => absurd (h75.symm.trans rfl) (by decide)) (fun h75 => ?_)
        refine J_iconst 0 C iX10_isSum_78 rfl ?_
        exact J_zret C E iX10_isSum_79 rfl (Or.inr ⟨i55, dp55, mn55, me55, od55, wi55, al55, rfl, rfl, by omega, by rw [← hL54, loopC_go1 (by omega) (now_eq t21), takeC_ok t21]; exact B55.step.lpC (by decide) (by decide)⟩)
    · have n21 : tq i54 ≠ 30 := fun z => h21 ((kdT (k := 30) (hkd _ (by omega)) (htq _) (by decide) rfl).mpr z)
      refine J_aload_n C iX10_isSum_24 rfl rfl ?_
      refine J_get (.ref (mo 2)) 0 C iX10_isSum_25 gf_X10_24 rfl rfl ?_
      refine J_aload_n C iX10_isSum_28 rfl rfl ?_
      refine J_get (.int (nI i54)) 0 C iX10_isSum_29 gf_X10_263 rfl rfl ?_
      refine J_iald 2 C iX10_isSum_32 rfl (vp_in_nI (n := i54) (by omega) (by decide)) ?_
      rw [nI_clamp (n := i54) (by omega)]
      refine J_bipush 45 C iX10_isSum_33 rfl ?_
      refine J_icmpne 90 C iX10_isSum_35 rfl (fun h35 => ?_) (fun h35 => ?_)
      · have n35 : tq i54 ≠ 31 := fun z => h35 ((kdT (k := 31) (hkd _ (by omega)) (htq _) (by decide) rfl).mpr z)
        refine J_iconst 1 C iX10_isSum_90 rfl ?_
        exact J_zret C E iX10_isSum_91 rfl (Or.inl ⟨i54, s54, me54, od54, wi54, al54, e54, a54, o54, g54, j54, rfl, rfl, by rw [← hL54, loopC_out (now_nn n21) (now_nn n35)], G54⟩)
      · have t35 : tq i54 = 31 := (kdT (k := 31) (hkd _ (by omega)) (htq _) (by decide) rfl).mp h35
        refine J_aload_n C iX10_isSum_38 rfl rfl ?_
        refine J_get (.ref (mo 2)) 0 C iX10_isSum_39 gf_X10_24 rfl rfl ?_
        refine J_aload_n C iX10_isSum_42 rfl rfl ?_
        refine J_get (.int (nI i54)) 0 C iX10_isSum_43 gf_X10_263 rfl rfl ?_
        refine J_iald 2 C iX10_isSum_46 rfl (vp_in_nI (n := i54) (by omega) (by decide)) ?_
        rw [nI_clamp (n := i54) (by omega)]
        refine J_bipush 43 C iX10_isSum_47 rfl ?_
        refine J_icmpne 57 C iX10_isSum_49 rfl (fun h49 => ?_) (fun h49 => absurd h49 h21)
        refine J_bipush 102 C iX10_isSum_57 rfl ?_
        refine J_istore_n [(2, .int 102), (0, .ref (mo 0)), (1, .ref (pn 0))] C iX10_isSum_59 rfl (by decide) rfl ?_
        have hl54 : i54 < Lt := hend i54 (by omega) (by rw [t35]; decide) (by rw [t35]; decide)
        refine J_aload_n C iX10_isSum_60 rfl rfl ?_
        refine J_dup C iX10_isSum_61 rfl ?_
        refine J_get (.int (nI i54)) 0 C iX10_isSum_62 gf_X10_263 rfl rfl ?_
        refine J_iconst 1 C iX10_isSum_65 rfl ?_
        refine J_iadd C iX10_isSum_66 ?_
        rw [show (nI i54) + 1 = nI (i54 + 1) from nI_add _ _]
        refine J_put (wMd Z mo pl th sz ea (nI (i54 + 1)) (nI d) lr dy ca kn tp kd fr me54 va wo pc ht fs la kh kf kl sh dk sk ++ wPl Z pn hs ls (nI s54) hn ha hh dz wh bg en od54 wi54 al54) 0 C iX10_isSum_67 pf_X10_263 rfl rfl rfl (Nat.le_of_ble_eq_true rfl) rfl ?_
        refine J_aload_n C iX10_isSum_70 rfl rfl ?_
        refine J_aload_n C iX10_isSum_71 rfl rfl ?_
        refine J_cV (As := [.ref (pn 0)]) (st := []) (rc2 := (rmK (38 - 4 * d)).cells) (rs2 := (rmK (38 - 4 * d)).slots) C iX10_isSum_72 lm_X10_309 yc_X10_isProduct yv_X10_isProduct (hv (e := e54) (a := a54) (o := o54) (g := g54) (j := j54) (by omega) (by omega) (fun k h1 h2 => hme54 k (by omega) h2)) (q0 := 0) rfl rfl rfl rfl (rmK_le (by omega) (by decide)) (Nat.le_of_ble_eq_true rfl) rfl rfl ?_
        rintro _ _ (⟨i56, s56, me56, od56, wi56, al56, e56, a56, o56, g56, j56, rfl, rfl, R56, G56⟩ | ⟨i56, dp56, mn56, me56, od56, wi56, al56, rfl, rfl, hL56, B56⟩)
        · refine J_st (.int (b2i true) :: []) rfl ?_
          have hil56 := G56.il
          have hiL56 := G56.iL
          have hsl56 := G56.sl
          have hss56 := G56.ss
          have hme56 : ∀ k, i56 ≤ k → k ≤ Lt → me56 k = 0 := fun k h1 h2 => (G56.fm k (Or.inr h1)).trans (hme54 k (by omega) h2)
          refine J_ifneb 80 C iX10_isSum_75 rfl (fun h75 => ?_) (fun h75 => absurd (h75.symm.trans rfl) (by decide))
          refine J_aload_n C iX10_isSum_80 rfl rfl ?_
          refine J_aload_n C iX10_isSum_81 rfl rfl ?_
          refine J_iload_n C iX10_isSum_82 rfl rfl ?_
          refine J_iconst 0 C iX10_isSum_83 rfl ?_
          refine J_cV (As := [.ref (pn 0), .int 102, .int 0]) (st := []) (rc2 := (rmK (38 - 4 * d)).cells) (rs2 := (rmK (38 - 4 * d)).slots) C iX10_isSum_84 lm_X10_279 yc_X10_put yv_X10_put (c_X10_put (s := s56) (by omega)) (q0 := 0) rfl rfl rfl rfl (rmK_le (by omega) (by decide)) (Nat.le_of_ble_eq_true rfl) rfl rfl ?_
          rintro _ _ ⟨rfl, rfl⟩
          refine J_st ([]) rfl ?_
          refine J_goto 10 C iX10_isSum_87 rfl ?_
          refine J_lvm [(0, .ref (mo 0)), (1, .ref (pn 0))] (by rfl) ?_
          exact ih54 (i56, (s56 + 1), me56, upd od56 s56 102, upd wi56 s56 0, al56, e56, a56, upd o56 s56 11, upd g56 s56 0, upd j56 s56 0, f54 - 1) ⟨by rw [← hL54, loopC_go2 (by omega) (now_eq t35) (by decide), takeC_ok t35, R56, stepC_lt (by omega)], by dsimp only; omega, G54.bin (c := 11) G56 (hme _ (by omega) (by omega)) (Or.inl ⟨rfl, rfl, by decide, by decide⟩)⟩ (by dsimp only; omega)
        · refine J_st (.int (b2i false) :: []) rfl ?_
          refine J_ifneb 80 C iX10_isSum_75 rfl (fun h75 => absurd (h75.symm.trans rfl) (by decide)) (fun h75 => ?_)
          refine J_iconst 0 C iX10_isSum_78 rfl ?_
          exact J_zret C E iX10_isSum_79 rfl (Or.inr ⟨i56, dp56, mn56, me56, od56, wi56, al56, rfl, rfl, by omega, by rw [← hL54, loopC_go2 (by omega) (now_eq t35) (by decide), takeC_ok t35]; exact B56.step.lpC (by decide) (by decide)⟩)
  · refine J_st (.int (b2i false) :: []) rfl ?_
    refine J_ifneb 10 C iX10_isSum_5 rfl (fun h5 => absurd (h5.symm.trans rfl) (by decide)) (fun h5 => ?_)
    refine J_iconst 0 C iX10_isSum_8 rfl ?_
    exact J_zret C E iX10_isSum_9 rfl (Or.inr ⟨i53, dp53, mn53, me53, od53, wi53, al53, rfl, rfl, by omega, by rw [sumC]; exact B53.lpC (by decide) (by decide)⟩)

set_option maxRecDepth 100000 in
set_option maxHeartbeats 4000000 in
theorem c_X10_isCompare {Z : GZ} {l : Launch} {mo pl pn : Nat → Nat} {th sz ea lr dy ca hs ls : Int32} {kn : Bool} {hn va : Nat → Int64} {ha hh dz wh bg en tp kd fr wo pc ht fs la kh kf kl sh dk sk : Nat → Int32} {Lt m : Nat} {tq : Nat → Nat} {sq : Nat → Int32} {vq nm : Nat → Int64} {vv : PS → PS} (hfv : Fro vv) {i s : Nat} {me od wi al : Nat → Int32} {e a : Int32} {o g j : Nat → Int32} {d : Nat} (hLt : Lt ≤ 400) (hkd : ∀ i, i ≤ Lt → kd i = km (tq i)) (htq : ∀ i, tq i < 43) (hend : ∀ i, i ≤ Lt → tq i ≠ 41 → tq i ≠ 42 → i < Lt) (hva : ∀ i, i ≤ Lt → tq i = 39 ∨ tq i = 40 → va i = vq i) (hd : d ≤ 8) (hv : ∀ {i s : Nat} {me od wi al : Nat → Int32} {e a : Int32} {o g j : Nat → Int32}, i ≤ Lt → s ≤ i → (∀ k, i ≤ k → k ≤ Lt → me k = 0) → Ct Z l yX10_isSum cX10_isSum 3 (some .boolean) (rmK (38 - 4 * d)) [.ref (mo 0), .ref (pn 0)] (wMd Z mo pl th sz ea (nI i) (nI d) lr dy ca kn tp kd fr me va wo pc ht fs la kh kf kl sh dk sk ++ wPl Z pn hs ls (nI s) hn ha hh dz wh bg en od wi al) (fun v w => (∃ i2 s2 me2 od2 wi2 al2 e2 a2 o2 g2 j2, v = some (.int (b2i true)) ∧ w = (wMd Z mo pl th sz ea (nI i2) (nI d) lr dy ca kn tp kd fr me2 va wo pc ht fs la kh kf kl sh dk sk ++ wPl Z pn hs ls (nI s2) hn ha hh dz wh bg en od2 wi2 al2) ∧ sumC tq sq vv (i, false, e, a, s, o, g, j) = (i2, false, e2, a2, s2, o2, g2, j2) ∧ Gd Lt tq sq vq nm m false i s me od wi al e a o g j i2 s2 me2 od2 wi2 al2 e2 a2 o2 g2 j2) ∨ (∃ i2 dp2 mn2 me2 od2 wi2 al2, v = some (.int (b2i false)) ∧ w = (wMd Z mo pl th sz ea (nI i2) dp2 lr dy ca kn tp kd fr me2 va wo pc ht fs la kh kf kl sh dk sk ++ wPl Z pn hs ls mn2 hn ha hh dz wh bg en od2 wi2 al2) ∧ i2 ≤ Lt ∧ Bk (sumC tq sq vv (i, false, e, a, s, o, g, j)) i2 (sq i2)))) (hi : i ≤ Lt) (hs_ : s ≤ i) (hme : ∀ k, i ≤ k → k ≤ Lt → me k = 0)  : Ct Z l yX10_isCompare cX10_isCompare 4 (some .boolean) (rmK (39 - 4 * d)) [.ref (mo 0), .ref (pn 0)] (wMd Z mo pl th sz ea (nI i) (nI d) lr dy ca kn tp kd fr me va wo pc ht fs la kh kf kl sh dk sk ++ wPl Z pn hs ls (nI s) hn ha hh dz wh bg en od wi al) (fun v w => (∃ i2 s2 me2 od2 wi2 al2 e2 a2 o2 g2 j2, v = some (.int (b2i true)) ∧ w = (wMd Z mo pl th sz ea (nI i2) (nI d) lr dy ca kn tp kd fr me2 va wo pc ht fs la kh kf kl sh dk sk ++ wPl Z pn hs ls (nI s2) hn ha hh dz wh bg en od2 wi2 al2) ∧ cmpC tq sq vv (i, false, e, a, s, o, g, j) = (i2, false, e2, a2, s2, o2, g2, j2) ∧ Gd Lt tq sq vq nm m true i s me od wi al e a o g j i2 s2 me2 od2 wi2 al2 e2 a2 o2 g2 j2) ∨ (∃ i2 dp2 mn2 me2 od2 wi2 al2, v = some (.int (b2i false)) ∧ w = (wMd Z mo pl th sz ea (nI i2) dp2 lr dy ca kn tp kd fr me2 va wo pc ht fs la kh kf kl sh dk sk ++ wPl Z pn hs ls mn2 hn ha hh dz wh bg en od2 wi2 al2) ∧ i2 ≤ Lt ∧ Bk (cmpC tq sq vv (i, false, e, a, s, o, g, j)) i2 (sq i2))) := by
  refine Ct.ofJ (own := RX10) (nm := "isCompare") (lv0 := [(0, .ref (mo 0)), (1, .ref (pn 0))]) (by decide) rfl rfl (Nat.le_of_ble_eq_true rfl) rfl (fun X hXl C E => ?_)
  subst hXl
  refine J_aload_n C iX10_isCompare_0 rfl rfl ?_
  refine J_aload_n C iX10_isCompare_1 rfl rfl ?_
  refine J_cV (As := [.ref (pn 0)]) (st := []) (rc2 := (rmK (39 - 4 * d)).cells) (rs2 := (rmK (39 - 4 * d)).slots) C iX10_isCompare_2 lm_X10_306 yc_X10_isSum yv_X10_isSum (hv (e := e) (a := a) (o := o) (g := g) (j := j) (by omega) (by omega) (fun k h1 h2 => hme k (by omega) h2)) (q0 := 0) rfl rfl rfl rfl (rmK_le (by omega) (by decide)) (Nat.le_of_ble_eq_true rfl) rfl rfl ?_
  rintro _ _ (⟨i57, s57, me57, od57, wi57, al57, e57, a57, o57, g57, j57, rfl, rfl, R57, G57⟩ | ⟨i57, dp57, mn57, me57, od57, wi57, al57, rfl, rfl, hL57, B57⟩)
  · refine J_st (.int (b2i true) :: []) rfl ?_
    have hil57 := G57.il
    have hiL57 := G57.iL
    have hsl57 := G57.sl
    have hss57 := G57.ss
    have hme57 : ∀ k, i57 ≤ k → k ≤ Lt → me57 k = 0 := fun k h1 h2 => (G57.fm k (Or.inr h1)).trans (hme k (by omega) h2)
    refine J_ifneb 10 C iX10_isCompare_5 rfl (fun h5 => ?_) (fun h5 => absurd (h5.symm.trans rfl) (by decide))
    refine J_aload_n C iX10_isCompare_10 rfl rfl ?_
    refine J_get (.ref (mo 2)) 0 C iX10_isCompare_11 gf_X10_24 rfl rfl ?_
    refine J_aload_n C iX10_isCompare_14 rfl rfl ?_
    refine J_get (.int (nI i57)) 0 C iX10_isCompare_15 gf_X10_263 rfl rfl ?_
    refine J_iald 2 C iX10_isCompare_18 rfl (vp_in_nI (n := i57) (by omega) (by decide)) ?_
    rw [nI_clamp (n := i57) (by omega)]
    refine J_istore_n [(2, .int (kd i57)), (0, .ref (mo 0)), (1, .ref (pn 0))] C iX10_isCompare_19 rfl (by decide) rfl ?_
    refine J_iload_n C iX10_isCompare_20 rfl rfl ?_
    refine J_bipush 60 C iX10_isCompare_21 rfl ?_
    refine J_icmpne 31 C iX10_isCompare_23 rfl (fun h23 => ?_) (fun h23 => ?_)
    · have n23 : tq i57 ≠ 34 := fun z => h23 ((kdT (k := 34) (hkd _ (by omega)) (htq _) (by decide) rfl).mpr z)
      refine J_iload_n C iX10_isCompare_31 rfl rfl ?_
      refine J_bipush 62 C iX10_isCompare_32 rfl ?_
      refine J_icmpne 42 C iX10_isCompare_34 rfl (fun h34 => ?_) (fun h34 => ?_)
      · have n34 : tq i57 ≠ 35 := fun z => h34 ((kdT (k := 35) (hkd _ (by omega)) (htq _) (by decide) rfl).mpr z)
        refine J_iload_n C iX10_isCompare_42 rfl rfl ?_
        refine J_bipush 61 C iX10_isCompare_43 rfl ?_
        refine J_icmpne 53 C iX10_isCompare_45 rfl (fun h45 => ?_) (fun h45 => ?_)
        · have n45 : tq i57 ≠ 36 := fun z => h45 ((kdT (k := 36) (hkd _ (by omega)) (htq _) (by decide) rfl).mpr z)
          refine J_iload_n C iX10_isCompare_53 rfl rfl ?_
          refine J_sipush 316 C iX10_isCompare_54 rfl ?_
          refine J_icmpne 65 C iX10_isCompare_57 rfl (fun h57 => ?_) (fun h57 => ?_)
          · have n57 : tq i57 ≠ 37 := fun z => h57 ((kdT (k := 37) (hkd _ (by omega)) (htq _) (by decide) rfl).mpr z)
            refine J_iload_n C iX10_isCompare_65 rfl rfl ?_
            refine J_sipush 318 C iX10_isCompare_66 rfl ?_
            refine J_icmpne 77 C iX10_isCompare_69 rfl (fun h69 => ?_) (fun h69 => ?_)
            · have n69 : tq i57 ≠ 38 := fun z => h69 ((kdT (k := 38) (hkd _ (by omega)) (htq _) (by decide) rfl).mpr z)
              refine J_iconst (-1) C iX10_isCompare_77 rfl ?_
              refine J_istore_n [(3, .int (-1)), (2, .int (kd i57)), (0, .ref (mo 0)), (1, .ref (pn 0))] C iX10_isCompare_78 rfl (by decide) rfl ?_
              refine J_iload_n C iX10_isCompare_79 rfl rfl ?_
              refine J_iconst (-1) C iX10_isCompare_80 rfl ?_
              refine J_icmpne 86 C iX10_isCompare_81 rfl (fun h81 => absurd (by decide) h81) (fun h81 => ?_)
              refine J_iconst 0 C iX10_isCompare_84 rfl ?_
              exact J_zret C E iX10_isCompare_85 rfl (Or.inr ⟨i57, nI d, nI s57, me57, od57, wi57, al57, rfl, rfl, by omega, by rw [cmpC, R57, nowC_ok, if_pos (show cmpK (tq i57) = -1 by simp [cmpK, n23, n34, n45, n57, n69])]; exact Bk.fail⟩)
            · have t69 : tq i57 = 38 := (kdT (k := 38) (hkd _ (by omega)) (htq _) (by decide) rfl).mp h69
              refine J_bipush 110 C iX10_isCompare_72 rfl ?_
              refine J_goto 78 C iX10_isCompare_74 rfl ?_
              refine J_istore_n [(3, .int 110), (2, .int (kd i57)), (0, .ref (mo 0)), (1, .ref (pn 0))] C iX10_isCompare_78 rfl (by decide) rfl ?_
              refine J_iload_n C iX10_isCompare_79 rfl rfl ?_
              refine J_iconst (-1) C iX10_isCompare_80 rfl ?_
              refine J_icmpne 86 C iX10_isCompare_81 rfl (fun h81 => ?_) (fun h81 => absurd h81 (by decide))
              have hl0 : i57 < Lt := hend i57 (by omega) (by rw [t69]; decide) (by rw [t69]; decide)
              refine J_aload_n C iX10_isCompare_86 rfl rfl ?_
              refine J_dup C iX10_isCompare_87 rfl ?_
              refine J_get (.int (nI i57)) 0 C iX10_isCompare_88 gf_X10_263 rfl rfl ?_
              refine J_iconst 1 C iX10_isCompare_91 rfl ?_
              refine J_iadd C iX10_isCompare_92 ?_
              rw [show (nI i57) + 1 = nI (i57 + 1) from nI_add _ _]
              refine J_put (wMd Z mo pl th sz ea (nI (i57 + 1)) (nI d) lr dy ca kn tp kd fr me57 va wo pc ht fs la kh kf kl sh dk sk ++ wPl Z pn hs ls (nI s57) hn ha hh dz wh bg en od57 wi57 al57) 0 C iX10_isCompare_93 pf_X10_263 rfl rfl rfl (Nat.le_of_ble_eq_true rfl) rfl ?_
              refine J_aload_n C iX10_isCompare_96 rfl rfl ?_
              refine J_aload_n C iX10_isCompare_97 rfl rfl ?_
              refine J_cV (As := [.ref (pn 0)]) (st := []) (rc2 := (rmK (39 - 4 * d)).cells) (rs2 := (rmK (39 - 4 * d)).slots) C iX10_isCompare_98 lm_X10_306 yc_X10_isSum yv_X10_isSum (hv (e := e57) (a := a57) (o := o57) (g := g57) (j := j57) (by omega) (by omega) (fun k h1 h2 => hme57 k (by omega) h2)) (q0 := 0) rfl rfl rfl rfl (rmK_le (by omega) (by decide)) (Nat.le_of_ble_eq_true rfl) rfl rfl ?_
              rintro _ _ (⟨i58, s58, me58, od58, wi58, al58, e58, a58, o58, g58, j58, rfl, rfl, R58, G58⟩ | ⟨i58, dp58, mn58, me58, od58, wi58, al58, rfl, rfl, hL58, B58⟩)
              · refine J_st (.int (b2i true) :: []) rfl ?_
                have hil58 := G58.il
                have hiL58 := G58.iL
                have hsl58 := G58.sl
                have hss58 := G58.ss
                have hme58 : ∀ k, i58 ≤ k → k ≤ Lt → me58 k = 0 := fun k h1 h2 => (G58.fm k (Or.inr h1)).trans (hme57 k (by omega) h2)
                refine J_ifneb 106 C iX10_isCompare_101 rfl (fun h101 => ?_) (fun h101 => absurd (h101.symm.trans rfl) (by decide))
                refine J_aload_n C iX10_isCompare_106 rfl rfl ?_
                refine J_aload_n C iX10_isCompare_107 rfl rfl ?_
                refine J_iload_n C iX10_isCompare_108 rfl rfl ?_
                refine J_iconst 0 C iX10_isCompare_109 rfl ?_
                refine J_cV (As := [.ref (pn 0), .int 110, .int 0]) (st := []) (rc2 := (rmK (39 - 4 * d)).cells) (rs2 := (rmK (39 - 4 * d)).slots) C iX10_isCompare_110 lm_X10_279 yc_X10_put yv_X10_put (c_X10_put (s := s58) (by omega)) (q0 := 0) rfl rfl rfl rfl (rmK_le (by omega) (by decide)) (Nat.le_of_ble_eq_true rfl) rfl rfl ?_
                rintro _ _ ⟨rfl, rfl⟩
                refine J_st ([]) rfl ?_
                refine J_iconst 1 C iX10_isCompare_113 rfl ?_
                exact J_zret C E iX10_isCompare_114 rfl (Or.inl ⟨i58, (s58 + 1), me58, upd od58 s58 110, upd wi58 s58 0, al58, e58, a58, upd o58 s58 20, upd g58 s58 0, upd j58 s58 0, rfl, rfl, by rw [cmpC, R57, nowC_ok, t69, if_neg (show ¬ cmpK 38 = -1 by decide), takeC_ok t69, R58, stepC_lt (by omega)]; rfl, G57.bin (c := 20) G58 (hme _ (by omega) (by omega)) (Or.inr (Or.inl ⟨rfl, rfl, by decide, by decide⟩))⟩)
              · refine J_st (.int (b2i false) :: []) rfl ?_
                refine J_ifneb 106 C iX10_isCompare_101 rfl (fun h101 => absurd (h101.symm.trans rfl) (by decide)) (fun h101 => ?_)
                refine J_iconst 0 C iX10_isCompare_104 rfl ?_
                exact J_zret C E iX10_isCompare_105 rfl (Or.inr ⟨i58, dp58, mn58, me58, od58, wi58, al58, rfl, rfl, by omega, by rw [cmpC, R57, nowC_ok, t69, if_neg (show ¬ cmpK 38 = -1 by decide), takeC_ok t69]; exact B58.step⟩)
          · have t57 : tq i57 = 37 := (kdT (k := 37) (hkd _ (by omega)) (htq _) (by decide) rfl).mp h57
            refine J_bipush 109 C iX10_isCompare_60 rfl ?_
            refine J_goto 78 C iX10_isCompare_62 rfl ?_
            refine J_istore_n [(3, .int 109), (2, .int (kd i57)), (0, .ref (mo 0)), (1, .ref (pn 0))] C iX10_isCompare_78 rfl (by decide) rfl ?_
            refine J_iload_n C iX10_isCompare_79 rfl rfl ?_
            refine J_iconst (-1) C iX10_isCompare_80 rfl ?_
            refine J_icmpne 86 C iX10_isCompare_81 rfl (fun h81 => ?_) (fun h81 => absurd h81 (by decide))
            have hl0 : i57 < Lt := hend i57 (by omega) (by rw [t57]; decide) (by rw [t57]; decide)
            refine J_aload_n C iX10_isCompare_86 rfl rfl ?_
            refine J_dup C iX10_isCompare_87 rfl ?_
            refine J_get (.int (nI i57)) 0 C iX10_isCompare_88 gf_X10_263 rfl rfl ?_
            refine J_iconst 1 C iX10_isCompare_91 rfl ?_
            refine J_iadd C iX10_isCompare_92 ?_
            rw [show (nI i57) + 1 = nI (i57 + 1) from nI_add _ _]
            refine J_put (wMd Z mo pl th sz ea (nI (i57 + 1)) (nI d) lr dy ca kn tp kd fr me57 va wo pc ht fs la kh kf kl sh dk sk ++ wPl Z pn hs ls (nI s57) hn ha hh dz wh bg en od57 wi57 al57) 0 C iX10_isCompare_93 pf_X10_263 rfl rfl rfl (Nat.le_of_ble_eq_true rfl) rfl ?_
            refine J_aload_n C iX10_isCompare_96 rfl rfl ?_
            refine J_aload_n C iX10_isCompare_97 rfl rfl ?_
            refine J_cV (As := [.ref (pn 0)]) (st := []) (rc2 := (rmK (39 - 4 * d)).cells) (rs2 := (rmK (39 - 4 * d)).slots) C iX10_isCompare_98 lm_X10_306 yc_X10_isSum yv_X10_isSum (hv (e := e57) (a := a57) (o := o57) (g := g57) (j := j57) (by omega) (by omega) (fun k h1 h2 => hme57 k (by omega) h2)) (q0 := 0) rfl rfl rfl rfl (rmK_le (by omega) (by decide)) (Nat.le_of_ble_eq_true rfl) rfl rfl ?_
            rintro _ _ (⟨i59, s59, me59, od59, wi59, al59, e59, a59, o59, g59, j59, rfl, rfl, R59, G59⟩ | ⟨i59, dp59, mn59, me59, od59, wi59, al59, rfl, rfl, hL59, B59⟩)
            · refine J_st (.int (b2i true) :: []) rfl ?_
              have hil59 := G59.il
              have hiL59 := G59.iL
              have hsl59 := G59.sl
              have hss59 := G59.ss
              have hme59 : ∀ k, i59 ≤ k → k ≤ Lt → me59 k = 0 := fun k h1 h2 => (G59.fm k (Or.inr h1)).trans (hme57 k (by omega) h2)
              refine J_ifneb 106 C iX10_isCompare_101 rfl (fun h101 => ?_) (fun h101 => absurd (h101.symm.trans rfl) (by decide))
              refine J_aload_n C iX10_isCompare_106 rfl rfl ?_
              refine J_aload_n C iX10_isCompare_107 rfl rfl ?_
              refine J_iload_n C iX10_isCompare_108 rfl rfl ?_
              refine J_iconst 0 C iX10_isCompare_109 rfl ?_
              refine J_cV (As := [.ref (pn 0), .int 109, .int 0]) (st := []) (rc2 := (rmK (39 - 4 * d)).cells) (rs2 := (rmK (39 - 4 * d)).slots) C iX10_isCompare_110 lm_X10_279 yc_X10_put yv_X10_put (c_X10_put (s := s59) (by omega)) (q0 := 0) rfl rfl rfl rfl (rmK_le (by omega) (by decide)) (Nat.le_of_ble_eq_true rfl) rfl rfl ?_
              rintro _ _ ⟨rfl, rfl⟩
              refine J_st ([]) rfl ?_
              refine J_iconst 1 C iX10_isCompare_113 rfl ?_
              exact J_zret C E iX10_isCompare_114 rfl (Or.inl ⟨i59, (s59 + 1), me59, upd od59 s59 109, upd wi59 s59 0, al59, e59, a59, upd o59 s59 19, upd g59 s59 0, upd j59 s59 0, rfl, rfl, by rw [cmpC, R57, nowC_ok, t57, if_neg (show ¬ cmpK 37 = -1 by decide), takeC_ok t57, R59, stepC_lt (by omega)]; rfl, G57.bin (c := 19) G59 (hme _ (by omega) (by omega)) (Or.inr (Or.inl ⟨rfl, rfl, by decide, by decide⟩))⟩)
            · refine J_st (.int (b2i false) :: []) rfl ?_
              refine J_ifneb 106 C iX10_isCompare_101 rfl (fun h101 => absurd (h101.symm.trans rfl) (by decide)) (fun h101 => ?_)
              refine J_iconst 0 C iX10_isCompare_104 rfl ?_
              exact J_zret C E iX10_isCompare_105 rfl (Or.inr ⟨i59, dp59, mn59, me59, od59, wi59, al59, rfl, rfl, by omega, by rw [cmpC, R57, nowC_ok, t57, if_neg (show ¬ cmpK 37 = -1 by decide), takeC_ok t57]; exact B59.step⟩)
        · have t45 : tq i57 = 36 := (kdT (k := 36) (hkd _ (by omega)) (htq _) (by decide) rfl).mp h45
          refine J_bipush 108 C iX10_isCompare_48 rfl ?_
          refine J_goto 78 C iX10_isCompare_50 rfl ?_
          refine J_istore_n [(3, .int 108), (2, .int (kd i57)), (0, .ref (mo 0)), (1, .ref (pn 0))] C iX10_isCompare_78 rfl (by decide) rfl ?_
          refine J_iload_n C iX10_isCompare_79 rfl rfl ?_
          refine J_iconst (-1) C iX10_isCompare_80 rfl ?_
          refine J_icmpne 86 C iX10_isCompare_81 rfl (fun h81 => ?_) (fun h81 => absurd h81 (by decide))
          have hl0 : i57 < Lt := hend i57 (by omega) (by rw [t45]; decide) (by rw [t45]; decide)
          refine J_aload_n C iX10_isCompare_86 rfl rfl ?_
          refine J_dup C iX10_isCompare_87 rfl ?_
          refine J_get (.int (nI i57)) 0 C iX10_isCompare_88 gf_X10_263 rfl rfl ?_
          refine J_iconst 1 C iX10_isCompare_91 rfl ?_
          refine J_iadd C iX10_isCompare_92 ?_
          rw [show (nI i57) + 1 = nI (i57 + 1) from nI_add _ _]
          refine J_put (wMd Z mo pl th sz ea (nI (i57 + 1)) (nI d) lr dy ca kn tp kd fr me57 va wo pc ht fs la kh kf kl sh dk sk ++ wPl Z pn hs ls (nI s57) hn ha hh dz wh bg en od57 wi57 al57) 0 C iX10_isCompare_93 pf_X10_263 rfl rfl rfl (Nat.le_of_ble_eq_true rfl) rfl ?_
          refine J_aload_n C iX10_isCompare_96 rfl rfl ?_
          refine J_aload_n C iX10_isCompare_97 rfl rfl ?_
          refine J_cV (As := [.ref (pn 0)]) (st := []) (rc2 := (rmK (39 - 4 * d)).cells) (rs2 := (rmK (39 - 4 * d)).slots) C iX10_isCompare_98 lm_X10_306 yc_X10_isSum yv_X10_isSum (hv (e := e57) (a := a57) (o := o57) (g := g57) (j := j57) (by omega) (by omega) (fun k h1 h2 => hme57 k (by omega) h2)) (q0 := 0) rfl rfl rfl rfl (rmK_le (by omega) (by decide)) (Nat.le_of_ble_eq_true rfl) rfl rfl ?_
          rintro _ _ (⟨i60, s60, me60, od60, wi60, al60, e60, a60, o60, g60, j60, rfl, rfl, R60, G60⟩ | ⟨i60, dp60, mn60, me60, od60, wi60, al60, rfl, rfl, hL60, B60⟩)
          · refine J_st (.int (b2i true) :: []) rfl ?_
            have hil60 := G60.il
            have hiL60 := G60.iL
            have hsl60 := G60.sl
            have hss60 := G60.ss
            have hme60 : ∀ k, i60 ≤ k → k ≤ Lt → me60 k = 0 := fun k h1 h2 => (G60.fm k (Or.inr h1)).trans (hme57 k (by omega) h2)
            refine J_ifneb 106 C iX10_isCompare_101 rfl (fun h101 => ?_) (fun h101 => absurd (h101.symm.trans rfl) (by decide))
            refine J_aload_n C iX10_isCompare_106 rfl rfl ?_
            refine J_aload_n C iX10_isCompare_107 rfl rfl ?_
            refine J_iload_n C iX10_isCompare_108 rfl rfl ?_
            refine J_iconst 0 C iX10_isCompare_109 rfl ?_
            refine J_cV (As := [.ref (pn 0), .int 108, .int 0]) (st := []) (rc2 := (rmK (39 - 4 * d)).cells) (rs2 := (rmK (39 - 4 * d)).slots) C iX10_isCompare_110 lm_X10_279 yc_X10_put yv_X10_put (c_X10_put (s := s60) (by omega)) (q0 := 0) rfl rfl rfl rfl (rmK_le (by omega) (by decide)) (Nat.le_of_ble_eq_true rfl) rfl rfl ?_
            rintro _ _ ⟨rfl, rfl⟩
            refine J_st ([]) rfl ?_
            refine J_iconst 1 C iX10_isCompare_113 rfl ?_
            exact J_zret C E iX10_isCompare_114 rfl (Or.inl ⟨i60, (s60 + 1), me60, upd od60 s60 108, upd wi60 s60 0, al60, e60, a60, upd o60 s60 18, upd g60 s60 0, upd j60 s60 0, rfl, rfl, by rw [cmpC, R57, nowC_ok, t45, if_neg (show ¬ cmpK 36 = -1 by decide), takeC_ok t45, R60, stepC_lt (by omega)]; rfl, G57.bin (c := 18) G60 (hme _ (by omega) (by omega)) (Or.inr (Or.inl ⟨rfl, rfl, by decide, by decide⟩))⟩)
          · refine J_st (.int (b2i false) :: []) rfl ?_
            refine J_ifneb 106 C iX10_isCompare_101 rfl (fun h101 => absurd (h101.symm.trans rfl) (by decide)) (fun h101 => ?_)
            refine J_iconst 0 C iX10_isCompare_104 rfl ?_
            exact J_zret C E iX10_isCompare_105 rfl (Or.inr ⟨i60, dp60, mn60, me60, od60, wi60, al60, rfl, rfl, by omega, by rw [cmpC, R57, nowC_ok, t45, if_neg (show ¬ cmpK 36 = -1 by decide), takeC_ok t45]; exact B60.step⟩)
      · have t34 : tq i57 = 35 := (kdT (k := 35) (hkd _ (by omega)) (htq _) (by decide) rfl).mp h34
        refine J_bipush 107 C iX10_isCompare_37 rfl ?_
        refine J_goto 78 C iX10_isCompare_39 rfl ?_
        refine J_istore_n [(3, .int 107), (2, .int (kd i57)), (0, .ref (mo 0)), (1, .ref (pn 0))] C iX10_isCompare_78 rfl (by decide) rfl ?_
        refine J_iload_n C iX10_isCompare_79 rfl rfl ?_
        refine J_iconst (-1) C iX10_isCompare_80 rfl ?_
        refine J_icmpne 86 C iX10_isCompare_81 rfl (fun h81 => ?_) (fun h81 => absurd h81 (by decide))
        have hl0 : i57 < Lt := hend i57 (by omega) (by rw [t34]; decide) (by rw [t34]; decide)
        refine J_aload_n C iX10_isCompare_86 rfl rfl ?_
        refine J_dup C iX10_isCompare_87 rfl ?_
        refine J_get (.int (nI i57)) 0 C iX10_isCompare_88 gf_X10_263 rfl rfl ?_
        refine J_iconst 1 C iX10_isCompare_91 rfl ?_
        refine J_iadd C iX10_isCompare_92 ?_
        rw [show (nI i57) + 1 = nI (i57 + 1) from nI_add _ _]
        refine J_put (wMd Z mo pl th sz ea (nI (i57 + 1)) (nI d) lr dy ca kn tp kd fr me57 va wo pc ht fs la kh kf kl sh dk sk ++ wPl Z pn hs ls (nI s57) hn ha hh dz wh bg en od57 wi57 al57) 0 C iX10_isCompare_93 pf_X10_263 rfl rfl rfl (Nat.le_of_ble_eq_true rfl) rfl ?_
        refine J_aload_n C iX10_isCompare_96 rfl rfl ?_
        refine J_aload_n C iX10_isCompare_97 rfl rfl ?_
        refine J_cV (As := [.ref (pn 0)]) (st := []) (rc2 := (rmK (39 - 4 * d)).cells) (rs2 := (rmK (39 - 4 * d)).slots) C iX10_isCompare_98 lm_X10_306 yc_X10_isSum yv_X10_isSum (hv (e := e57) (a := a57) (o := o57) (g := g57) (j := j57) (by omega) (by omega) (fun k h1 h2 => hme57 k (by omega) h2)) (q0 := 0) rfl rfl rfl rfl (rmK_le (by omega) (by decide)) (Nat.le_of_ble_eq_true rfl) rfl rfl ?_
        rintro _ _ (⟨i61, s61, me61, od61, wi61, al61, e61, a61, o61, g61, j61, rfl, rfl, R61, G61⟩ | ⟨i61, dp61, mn61, me61, od61, wi61, al61, rfl, rfl, hL61, B61⟩)
        · refine J_st (.int (b2i true) :: []) rfl ?_
          have hil61 := G61.il
          have hiL61 := G61.iL
          have hsl61 := G61.sl
          have hss61 := G61.ss
          have hme61 : ∀ k, i61 ≤ k → k ≤ Lt → me61 k = 0 := fun k h1 h2 => (G61.fm k (Or.inr h1)).trans (hme57 k (by omega) h2)
          refine J_ifneb 106 C iX10_isCompare_101 rfl (fun h101 => ?_) (fun h101 => absurd (h101.symm.trans rfl) (by decide))
          refine J_aload_n C iX10_isCompare_106 rfl rfl ?_
          refine J_aload_n C iX10_isCompare_107 rfl rfl ?_
          refine J_iload_n C iX10_isCompare_108 rfl rfl ?_
          refine J_iconst 0 C iX10_isCompare_109 rfl ?_
          refine J_cV (As := [.ref (pn 0), .int 107, .int 0]) (st := []) (rc2 := (rmK (39 - 4 * d)).cells) (rs2 := (rmK (39 - 4 * d)).slots) C iX10_isCompare_110 lm_X10_279 yc_X10_put yv_X10_put (c_X10_put (s := s61) (by omega)) (q0 := 0) rfl rfl rfl rfl (rmK_le (by omega) (by decide)) (Nat.le_of_ble_eq_true rfl) rfl rfl ?_
          rintro _ _ ⟨rfl, rfl⟩
          refine J_st ([]) rfl ?_
          refine J_iconst 1 C iX10_isCompare_113 rfl ?_
          exact J_zret C E iX10_isCompare_114 rfl (Or.inl ⟨i61, (s61 + 1), me61, upd od61 s61 107, upd wi61 s61 0, al61, e61, a61, upd o61 s61 17, upd g61 s61 0, upd j61 s61 0, rfl, rfl, by rw [cmpC, R57, nowC_ok, t34, if_neg (show ¬ cmpK 35 = -1 by decide), takeC_ok t34, R61, stepC_lt (by omega)]; rfl, G57.bin (c := 17) G61 (hme _ (by omega) (by omega)) (Or.inr (Or.inl ⟨rfl, rfl, by decide, by decide⟩))⟩)
        · refine J_st (.int (b2i false) :: []) rfl ?_
          refine J_ifneb 106 C iX10_isCompare_101 rfl (fun h101 => absurd (h101.symm.trans rfl) (by decide)) (fun h101 => ?_)
          refine J_iconst 0 C iX10_isCompare_104 rfl ?_
          exact J_zret C E iX10_isCompare_105 rfl (Or.inr ⟨i61, dp61, mn61, me61, od61, wi61, al61, rfl, rfl, by omega, by rw [cmpC, R57, nowC_ok, t34, if_neg (show ¬ cmpK 35 = -1 by decide), takeC_ok t34]; exact B61.step⟩)
    · have t23 : tq i57 = 34 := (kdT (k := 34) (hkd _ (by omega)) (htq _) (by decide) rfl).mp h23
      refine J_bipush 106 C iX10_isCompare_26 rfl ?_
      refine J_goto 78 C iX10_isCompare_28 rfl ?_
      refine J_istore_n [(3, .int 106), (2, .int (kd i57)), (0, .ref (mo 0)), (1, .ref (pn 0))] C iX10_isCompare_78 rfl (by decide) rfl ?_
      refine J_iload_n C iX10_isCompare_79 rfl rfl ?_
      refine J_iconst (-1) C iX10_isCompare_80 rfl ?_
      refine J_icmpne 86 C iX10_isCompare_81 rfl (fun h81 => ?_) (fun h81 => absurd h81 (by decide))
      have hl0 : i57 < Lt := hend i57 (by omega) (by rw [t23]; decide) (by rw [t23]; decide)
      refine J_aload_n C iX10_isCompare_86 rfl rfl ?_
      refine J_dup C iX10_isCompare_87 rfl ?_
      refine J_get (.int (nI i57)) 0 C iX10_isCompare_88 gf_X10_263 rfl rfl ?_
      refine J_iconst 1 C iX10_isCompare_91 rfl ?_
      refine J_iadd C iX10_isCompare_92 ?_
      rw [show (nI i57) + 1 = nI (i57 + 1) from nI_add _ _]
      refine J_put (wMd Z mo pl th sz ea (nI (i57 + 1)) (nI d) lr dy ca kn tp kd fr me57 va wo pc ht fs la kh kf kl sh dk sk ++ wPl Z pn hs ls (nI s57) hn ha hh dz wh bg en od57 wi57 al57) 0 C iX10_isCompare_93 pf_X10_263 rfl rfl rfl (Nat.le_of_ble_eq_true rfl) rfl ?_
      refine J_aload_n C iX10_isCompare_96 rfl rfl ?_
      refine J_aload_n C iX10_isCompare_97 rfl rfl ?_
      refine J_cV (As := [.ref (pn 0)]) (st := []) (rc2 := (rmK (39 - 4 * d)).cells) (rs2 := (rmK (39 - 4 * d)).slots) C iX10_isCompare_98 lm_X10_306 yc_X10_isSum yv_X10_isSum (hv (e := e57) (a := a57) (o := o57) (g := g57) (j := j57) (by omega) (by omega) (fun k h1 h2 => hme57 k (by omega) h2)) (q0 := 0) rfl rfl rfl rfl (rmK_le (by omega) (by decide)) (Nat.le_of_ble_eq_true rfl) rfl rfl ?_
      rintro _ _ (⟨i62, s62, me62, od62, wi62, al62, e62, a62, o62, g62, j62, rfl, rfl, R62, G62⟩ | ⟨i62, dp62, mn62, me62, od62, wi62, al62, rfl, rfl, hL62, B62⟩)
      · refine J_st (.int (b2i true) :: []) rfl ?_
        have hil62 := G62.il
        have hiL62 := G62.iL
        have hsl62 := G62.sl
        have hss62 := G62.ss
        have hme62 : ∀ k, i62 ≤ k → k ≤ Lt → me62 k = 0 := fun k h1 h2 => (G62.fm k (Or.inr h1)).trans (hme57 k (by omega) h2)
        refine J_ifneb 106 C iX10_isCompare_101 rfl (fun h101 => ?_) (fun h101 => absurd (h101.symm.trans rfl) (by decide))
        refine J_aload_n C iX10_isCompare_106 rfl rfl ?_
        refine J_aload_n C iX10_isCompare_107 rfl rfl ?_
        refine J_iload_n C iX10_isCompare_108 rfl rfl ?_
        refine J_iconst 0 C iX10_isCompare_109 rfl ?_
        refine J_cV (As := [.ref (pn 0), .int 106, .int 0]) (st := []) (rc2 := (rmK (39 - 4 * d)).cells) (rs2 := (rmK (39 - 4 * d)).slots) C iX10_isCompare_110 lm_X10_279 yc_X10_put yv_X10_put (c_X10_put (s := s62) (by omega)) (q0 := 0) rfl rfl rfl rfl (rmK_le (by omega) (by decide)) (Nat.le_of_ble_eq_true rfl) rfl rfl ?_
        rintro _ _ ⟨rfl, rfl⟩
        refine J_st ([]) rfl ?_
        refine J_iconst 1 C iX10_isCompare_113 rfl ?_
        exact J_zret C E iX10_isCompare_114 rfl (Or.inl ⟨i62, (s62 + 1), me62, upd od62 s62 106, upd wi62 s62 0, al62, e62, a62, upd o62 s62 16, upd g62 s62 0, upd j62 s62 0, rfl, rfl, by rw [cmpC, R57, nowC_ok, t23, if_neg (show ¬ cmpK 34 = -1 by decide), takeC_ok t23, R62, stepC_lt (by omega)]; rfl, G57.bin (c := 16) G62 (hme _ (by omega) (by omega)) (Or.inr (Or.inl ⟨rfl, rfl, by decide, by decide⟩))⟩)
      · refine J_st (.int (b2i false) :: []) rfl ?_
        refine J_ifneb 106 C iX10_isCompare_101 rfl (fun h101 => absurd (h101.symm.trans rfl) (by decide)) (fun h101 => ?_)
        refine J_iconst 0 C iX10_isCompare_104 rfl ?_
        exact J_zret C E iX10_isCompare_105 rfl (Or.inr ⟨i62, dp62, mn62, me62, od62, wi62, al62, rfl, rfl, by omega, by rw [cmpC, R57, nowC_ok, t23, if_neg (show ¬ cmpK 34 = -1 by decide), takeC_ok t23]; exact B62.step⟩)
  · refine J_st (.int (b2i false) :: []) rfl ?_
    refine J_ifneb 10 C iX10_isCompare_5 rfl (fun h5 => absurd (h5.symm.trans rfl) (by decide)) (fun h5 => ?_)
    refine J_iconst 0 C iX10_isCompare_8 rfl ?_
    exact J_zret C E iX10_isCompare_9 rfl (Or.inr ⟨i57, dp57, mn57, me57, od57, wi57, al57, rfl, rfl, by omega, by rw [cmpC, B57.now, if_pos (show cmpK 42 = -1 from rfl)]; exact B57.app fro_fail⟩)

set_option maxRecDepth 100000 in
set_option maxHeartbeats 4000000 in
theorem c_X10_isSingle {Z : GZ} {l : Launch} {mo pl pn : Nat → Nat} {th sz ea lr dy ca hs ls : Int32} {kn : Bool} {hn va : Nat → Int64} {ha hh dz wh bg en tp kd fr wo pc ht fs la kh kf kl sh dk sk : Nat → Int32} {Lt m : Nat} {tq : Nat → Nat} {sq : Nat → Int32} {vq nm : Nat → Int64} {vv uu : PS → PS} (hfv : Fro vv) (hfu : Fro uu) {i s : Nat} {me od wi al : Nat → Int32} {e a : Int32} {o g j : Nat → Int32} {d : Nat} (hLt : Lt ≤ 400) (hkd : ∀ i, i ≤ Lt → kd i = km (tq i)) (htq : ∀ i, tq i < 43) (hend : ∀ i, i ≤ Lt → tq i ≠ 41 → tq i ≠ 42 → i < Lt) (hva : ∀ i, i ≤ Lt → tq i = 39 ∨ tq i = 40 → va i = vq i) (hd : d ≤ 8) (hu : d < 8 → ∀ {i s : Nat} {me od wi al : Nat → Int32} {e a : Int32} {o g j : Nat → Int32}, i ≤ Lt → s ≤ i → (∀ k, i ≤ k → k ≤ Lt → me k = 0) → Ct Z l yX10_isSingle cX10_isSingle 3 (some .boolean) (rmK (36 - 4 * d)) [.ref (mo 0), .ref (pn 0)] (wMd Z mo pl th sz ea (nI i) (nI (d + 1)) lr dy ca kn tp kd fr me va wo pc ht fs la kh kf kl sh dk sk ++ wPl Z pn hs ls (nI s) hn ha hh dz wh bg en od wi al) (fun v w => (∃ i2 s2 me2 od2 wi2 al2 e2 a2 o2 g2 j2, v = some (.int (b2i true)) ∧ w = (wMd Z mo pl th sz ea (nI i2) (nI (d + 1)) lr dy ca kn tp kd fr me2 va wo pc ht fs la kh kf kl sh dk sk ++ wPl Z pn hs ls (nI s2) hn ha hh dz wh bg en od2 wi2 al2) ∧ uu (i, false, e, a, s, o, g, j) = (i2, false, e2, a2, s2, o2, g2, j2) ∧ Gd Lt tq sq vq nm m true i s me od wi al e a o g j i2 s2 me2 od2 wi2 al2 e2 a2 o2 g2 j2) ∨ (∃ i2 dp2 mn2 me2 od2 wi2 al2, v = some (.int (b2i false)) ∧ w = (wMd Z mo pl th sz ea (nI i2) dp2 lr dy ca kn tp kd fr me2 va wo pc ht fs la kh kf kl sh dk sk ++ wPl Z pn hs ls mn2 hn ha hh dz wh bg en od2 wi2 al2) ∧ i2 ≤ Lt ∧ Bk (uu (i, false, e, a, s, o, g, j)) i2 (sq i2)))) (htst : d < 8 → ∀ {i s : Nat} {me od wi al : Nat → Int32} {e a : Int32} {o g j : Nat → Int32}, i ≤ Lt → s ≤ i → (∀ k, i ≤ k → k ≤ Lt → me k = 0) → Ct Z l yX10_isTest cX10_isTest 2 (some .boolean) (rmK (38 - 4 * d)) [.ref (mo 0), .ref (pn 0)] (wMd Z mo pl th sz ea (nI i) (nI (d + 1)) lr dy ca kn tp kd fr me va wo pc ht fs la kh kf kl sh dk sk ++ wPl Z pn hs ls (nI s) hn ha hh dz wh bg en od wi al) (fun v w => (∃ i2 s2 me2 od2 wi2 al2 e2 a2 o2 g2 j2, v = some (.int (b2i true)) ∧ w = (wMd Z mo pl th sz ea (nI i2) (nI (d + 1)) lr dy ca kn tp kd fr me2 va wo pc ht fs la kh kf kl sh dk sk ++ wPl Z pn hs ls (nI s2) hn ha hh dz wh bg en od2 wi2 al2) ∧ testC tq sq uu (i, false, e, a, s, o, g, j) = (i2, false, e2, a2, s2, o2, g2, j2) ∧ Gd Lt tq sq vq nm m true i s me od wi al e a o g j i2 s2 me2 od2 wi2 al2 e2 a2 o2 g2 j2) ∨ (∃ i2 dp2 mn2 me2 od2 wi2 al2, v = some (.int (b2i false)) ∧ w = (wMd Z mo pl th sz ea (nI i2) dp2 lr dy ca kn tp kd fr me2 va wo pc ht fs la kh kf kl sh dk sk ++ wPl Z pn hs ls mn2 hn ha hh dz wh bg en od2 wi2 al2) ∧ i2 ≤ Lt ∧ Bk (testC tq sq uu (i, false, e, a, s, o, g, j)) i2 (sq i2)))) (hsum : ∀ {i s : Nat} {me od wi al : Nat → Int32} {e a : Int32} {o g j : Nat → Int32}, i ≤ Lt → s ≤ i → (∀ k, i ≤ k → k ≤ Lt → me k = 0) → Ct Z l yX10_isSum cX10_isSum 3 (some .boolean) (rmK (38 - 4 * d)) [.ref (mo 0), .ref (pn 0)] (wMd Z mo pl th sz ea (nI i) (nI d) lr dy ca kn tp kd fr me va wo pc ht fs la kh kf kl sh dk sk ++ wPl Z pn hs ls (nI s) hn ha hh dz wh bg en od wi al) (fun v w => (∃ i2 s2 me2 od2 wi2 al2 e2 a2 o2 g2 j2, v = some (.int (b2i true)) ∧ w = (wMd Z mo pl th sz ea (nI i2) (nI d) lr dy ca kn tp kd fr me2 va wo pc ht fs la kh kf kl sh dk sk ++ wPl Z pn hs ls (nI s2) hn ha hh dz wh bg en od2 wi2 al2) ∧ sumC tq sq vv (i, false, e, a, s, o, g, j) = (i2, false, e2, a2, s2, o2, g2, j2) ∧ Gd Lt tq sq vq nm m false i s me od wi al e a o g j i2 s2 me2 od2 wi2 al2 e2 a2 o2 g2 j2) ∨ (∃ i2 dp2 mn2 me2 od2 wi2 al2, v = some (.int (b2i false)) ∧ w = (wMd Z mo pl th sz ea (nI i2) dp2 lr dy ca kn tp kd fr me2 va wo pc ht fs la kh kf kl sh dk sk ++ wPl Z pn hs ls mn2 hn ha hh dz wh bg en od2 wi2 al2) ∧ i2 ≤ Lt ∧ Bk (sumC tq sq vv (i, false, e, a, s, o, g, j)) i2 (sq i2)))) (hi : i ≤ Lt) (hs_ : s ≤ i) (hme : ∀ k, i ≤ k → k ≤ Lt → me k = 0)  : Ct Z l yX10_isSingle cX10_isSingle 3 (some .boolean) (rmK (40 - 4 * d)) [.ref (mo 0), .ref (pn 0)] (wMd Z mo pl th sz ea (nI i) (nI d) lr dy ca kn tp kd fr me va wo pc ht fs la kh kf kl sh dk sk ++ wPl Z pn hs ls (nI s) hn ha hh dz wh bg en od wi al) (fun v w => (∃ i2 s2 me2 od2 wi2 al2 e2 a2 o2 g2 j2, v = some (.int (b2i true)) ∧ w = (wMd Z mo pl th sz ea (nI i2) (nI d) lr dy ca kn tp kd fr me2 va wo pc ht fs la kh kf kl sh dk sk ++ wPl Z pn hs ls (nI s2) hn ha hh dz wh bg en od2 wi2 al2) ∧ sglB tq sq vq nm m d vv uu (i, false, e, a, s, o, g, j) = (i2, false, e2, a2, s2, o2, g2, j2) ∧ Gd Lt tq sq vq nm m true i s me od wi al e a o g j i2 s2 me2 od2 wi2 al2 e2 a2 o2 g2 j2) ∨ (∃ i2 dp2 mn2 me2 od2 wi2 al2, v = some (.int (b2i false)) ∧ w = (wMd Z mo pl th sz ea (nI i2) dp2 lr dy ca kn tp kd fr me2 va wo pc ht fs la kh kf kl sh dk sk ++ wPl Z pn hs ls mn2 hn ha hh dz wh bg en od2 wi2 al2) ∧ i2 ≤ Lt ∧ Bk (sglB tq sq vq nm m d vv uu (i, false, e, a, s, o, g, j)) i2 (sq i2))) := by
  refine Ct.ofJ (own := RX10) (nm := "isSingle") (lv0 := [(0, .ref (mo 0)), (1, .ref (pn 0))]) (by decide) rfl rfl (Nat.le_of_ble_eq_true rfl) rfl (fun X hXl C E => ?_)
  subst hXl
  refine J_aload_n C iX10_isSingle_0 rfl rfl ?_
  refine J_get (.ref (mo 2)) 0 C iX10_isSingle_1 gf_X10_24 rfl rfl ?_
  refine J_aload_n C iX10_isSingle_4 rfl rfl ?_
  refine J_get (.int (nI i)) 0 C iX10_isSingle_5 gf_X10_263 rfl rfl ?_
  refine J_iald 2 C iX10_isSingle_8 rfl (vp_in_nI (n := i) (by omega) (by decide)) ?_
  rw [nI_clamp (n := i) (by omega)]
  refine J_istore_n [(2, .int (kd i)), (0, .ref (mo 0)), (1, .ref (pn 0))] C iX10_isSingle_9 rfl (by decide) rfl ?_
  refine J_iload_n C iX10_isSingle_10 rfl rfl ?_
  refine J_bipush 19 C iX10_isSingle_11 rfl ?_
  refine J_icmpne 55 C iX10_isSingle_13 rfl (fun h13 => ?_) (fun h13 => ?_)
  · have n13 : tq i ≠ 19 := fun z => h13 ((kdT (k := 19) (hkd _ (by omega)) (htq _) (by decide) rfl).mpr z)
    refine J_iload_n C iX10_isSingle_55 rfl rfl ?_
    refine J_bipush 91 C iX10_isSingle_56 rfl ?_
    refine J_icmpne 93 C iX10_isSingle_58 rfl (fun h58 => ?_) (fun h58 => ?_)
    · have n58 : tq i ≠ 26 := fun z => h58 ((kdT (k := 26) (hkd _ (by omega)) (htq _) (by decide) rfl).mpr z)
      refine J_iload_n C iX10_isSingle_93 rfl rfl ?_
      refine J_bipush 17 C iX10_isSingle_94 rfl ?_
      refine J_icmpeq 105 C iX10_isSingle_96 rfl (fun h96 => ?_) (fun h96 => ?_)
      · have t96 : tq i = 17 := (kdT (k := 17) (hkd _ (by omega)) (htq _) (by decide) rfl).mp h96
        refine J_lvm [(2, .int 17), (0, .ref (mo 0)), (1, .ref (pn 0))] (by rw [h96]; rfl) ?_
        refine J_aload_n C iX10_isSingle_105 rfl rfl ?_
        refine J_aload_n C iX10_isSingle_106 rfl rfl ?_
        refine J_iload_n C iX10_isSingle_107 rfl rfl ?_
        refine J_cV (As := [.ref (pn 0), .int 17]) (st := []) (rc2 := (rmK (40 - 4 * d)).cells) (rs2 := (rmK (40 - 4 * d)).slots) C iX10_isSingle_108 lm_X10_299 yc_X10_isAbout yv_X10_isAbout (c_X10_isAbout_17 (m := m) (sq := sq) (nm := nm) hLt hkd htq hend hva (e := e) (a := a) (o := o) (g := g) (j := j) (by omega) (by omega) (fun k h1 h2 => hme k (by omega) h2) t96) (q0 := 0) rfl rfl rfl rfl (rmK_le (by omega) (by decide)) (Nat.le_of_ble_eq_true rfl) rfl rfl ?_
        rintro _ _ (⟨i63, s63, me63, od63, wi63, al63, e63, a63, o63, g63, j63, rfl, rfl, R63, G63⟩ | ⟨i63, dp63, mn63, me63, od63, wi63, al63, rfl, rfl, hL63, B63⟩)
        · refine J_st (.int (b2i true) :: []) rfl ?_
          have hil63 := G63.il
          have hiL63 := G63.iL
          have hsl63 := G63.sl
          have hss63 := G63.ss
          have hme63 : ∀ k, i63 ≤ k → k ≤ Lt → me63 k = 0 := fun k h1 h2 => (G63.fm k (Or.inr h1)).trans (hme k (by omega) h2)
          refine J_goto 119 C iX10_isSingle_111 rfl ?_
          exact J_zret C E iX10_isSingle_119 nb_b2i (Or.inl ⟨i63, s63, me63, od63, wi63, al63, e63, a63, o63, g63, j63, rfl, rfl, by rw [sglB, if_neg (now_ne (c := 19) t96 (by decide)), if_neg (now_ne (c := 26) t96 (by decide)), if_pos (now_eq t96)]; exact R63, G63⟩)
        · refine J_st (.int (b2i false) :: []) rfl ?_
          refine J_goto 119 C iX10_isSingle_111 rfl ?_
          exact J_zret C E iX10_isSingle_119 nb_b2i (Or.inr ⟨i63, dp63, mn63, me63, od63, wi63, al63, rfl, rfl, by omega, by rw [sglB, if_neg (now_ne (c := 19) t96 (by decide)), if_neg (now_ne (c := 26) t96 (by decide)), if_pos (now_eq t96)]; exact B63⟩)
      · have n96 : tq i ≠ 17 := fun z => h96 ((kdT (k := 17) (hkd _ (by omega)) (htq _) (by decide) rfl).mpr z)
        refine J_iload_n C iX10_isSingle_99 rfl rfl ?_
        refine J_bipush 18 C iX10_isSingle_100 rfl ?_
        refine J_icmpne 114 C iX10_isSingle_102 rfl (fun h102 => ?_) (fun h102 => ?_)
        · have n102 : tq i ≠ 18 := fun z => h102 ((kdT (k := 18) (hkd _ (by omega)) (htq _) (by decide) rfl).mpr z)
          refine J_aload_n C iX10_isSingle_114 rfl rfl ?_
          refine J_aload_n C iX10_isSingle_115 rfl rfl ?_
          refine J_cV (As := [.ref (pn 0)]) (st := []) (rc2 := (rmK (40 - 4 * d)).cells) (rs2 := (rmK (40 - 4 * d)).slots) C iX10_isSingle_116 lm_X10_303 yc_X10_isCompare yv_X10_isCompare (c_X10_isCompare hfv hLt hkd htq hend hva hd hsum (e := e) (a := a) (o := o) (g := g) (j := j) (by omega) (by omega) (fun k h1 h2 => hme k (by omega) h2)) (q0 := 0) rfl rfl rfl rfl (rmK_le (by omega) (by decide)) (Nat.le_of_ble_eq_true rfl) rfl rfl ?_
          rintro _ _ (⟨i64, s64, me64, od64, wi64, al64, e64, a64, o64, g64, j64, rfl, rfl, R64, G64⟩ | ⟨i64, dp64, mn64, me64, od64, wi64, al64, rfl, rfl, hL64, B64⟩)
          · refine J_st (.int (b2i true) :: []) rfl ?_
            have hil64 := G64.il
            have hiL64 := G64.iL
            have hsl64 := G64.sl
            have hss64 := G64.ss
            have hme64 : ∀ k, i64 ≤ k → k ≤ Lt → me64 k = 0 := fun k h1 h2 => (G64.fm k (Or.inr h1)).trans (hme k (by omega) h2)
            exact J_zret C E iX10_isSingle_119 nb_b2i (Or.inl ⟨i64, s64, me64, od64, wi64, al64, e64, a64, o64, g64, j64, rfl, rfl, by rw [sglB, if_neg (now_nn n13), if_neg (now_nn n58), if_neg (now_nn n96), if_neg (now_nn n102)]; exact R64, G64⟩)
          · refine J_st (.int (b2i false) :: []) rfl ?_
            exact J_zret C E iX10_isSingle_119 nb_b2i (Or.inr ⟨i64, dp64, mn64, me64, od64, wi64, al64, rfl, rfl, by omega, by rw [sglB, if_neg (now_nn n13), if_neg (now_nn n58), if_neg (now_nn n96), if_neg (now_nn n102)]; exact B64⟩)
        · have t102 : tq i = 18 := (kdT (k := 18) (hkd _ (by omega)) (htq _) (by decide) rfl).mp h102
          refine J_lvm [(2, .int 18), (0, .ref (mo 0)), (1, .ref (pn 0))] (by rw [h102]; rfl) ?_
          refine J_aload_n C iX10_isSingle_105 rfl rfl ?_
          refine J_aload_n C iX10_isSingle_106 rfl rfl ?_
          refine J_iload_n C iX10_isSingle_107 rfl rfl ?_
          refine J_cV (As := [.ref (pn 0), .int 18]) (st := []) (rc2 := (rmK (40 - 4 * d)).cells) (rs2 := (rmK (40 - 4 * d)).slots) C iX10_isSingle_108 lm_X10_299 yc_X10_isAbout yv_X10_isAbout (c_X10_isAbout_18 (m := m) (sq := sq) (nm := nm) hLt hkd htq hend hva (e := e) (a := a) (o := o) (g := g) (j := j) (by omega) (by omega) (fun k h1 h2 => hme k (by omega) h2) t102) (q0 := 0) rfl rfl rfl rfl (rmK_le (by omega) (by decide)) (Nat.le_of_ble_eq_true rfl) rfl rfl ?_
          rintro _ _ (⟨i65, s65, me65, od65, wi65, al65, e65, a65, o65, g65, j65, rfl, rfl, R65, G65⟩ | ⟨i65, dp65, mn65, me65, od65, wi65, al65, rfl, rfl, hL65, B65⟩)
          · refine J_st (.int (b2i true) :: []) rfl ?_
            have hil65 := G65.il
            have hiL65 := G65.iL
            have hsl65 := G65.sl
            have hss65 := G65.ss
            have hme65 : ∀ k, i65 ≤ k → k ≤ Lt → me65 k = 0 := fun k h1 h2 => (G65.fm k (Or.inr h1)).trans (hme k (by omega) h2)
            refine J_goto 119 C iX10_isSingle_111 rfl ?_
            exact J_zret C E iX10_isSingle_119 nb_b2i (Or.inl ⟨i65, s65, me65, od65, wi65, al65, e65, a65, o65, g65, j65, rfl, rfl, by rw [sglB, if_neg (now_ne (c := 19) t102 (by decide)), if_neg (now_ne (c := 26) t102 (by decide)), if_neg (now_ne (c := 17) t102 (by decide)), if_pos (now_eq t102)]; exact R65, G65⟩)
          · refine J_st (.int (b2i false) :: []) rfl ?_
            refine J_goto 119 C iX10_isSingle_111 rfl ?_
            exact J_zret C E iX10_isSingle_119 nb_b2i (Or.inr ⟨i65, dp65, mn65, me65, od65, wi65, al65, rfl, rfl, by omega, by rw [sglB, if_neg (now_ne (c := 19) t102 (by decide)), if_neg (now_ne (c := 26) t102 (by decide)), if_neg (now_ne (c := 17) t102 (by decide)), if_pos (now_eq t102)]; exact B65⟩)
    · have t58 : tq i = 26 := (kdT (k := 26) (hkd _ (by omega)) (htq _) (by decide) rfl).mp h58
      refine J_aload_n C iX10_isSingle_61 rfl rfl ?_
      refine J_bipush 91 C iX10_isSingle_62 rfl ?_
      refine J_cV (As := [.int 91]) (st := []) (rc2 := (rmK (40 - 4 * d)).cells) (rs2 := (rmK (40 - 4 * d)).slots) C iX10_isSingle_64 lm_X10_290 yc_X10_deeper yv_X10_deeper (c_X10_deeper (k := 26) rfl (by decide) (by decide) (by decide) hLt hkd htq hend hva (by omega) (by omega)) (q0 := 0) rfl rfl rfl rfl (rmK_le (by omega) (by decide)) (Nat.le_of_ble_eq_true rfl) rfl rfl ?_
      rintro _ _ (⟨rfl, rfl, t_66, l_66, d_66⟩ | ⟨rfl, rfl, n_66⟩)
      · refine J_st (.int (b2i true) :: []) rfl ?_
        refine J_ifeqb 91 C iX10_isSingle_67 rfl (fun h67 => absurd (h67.symm.trans rfl) (by decide)) (fun h67 => ?_)
        refine J_aload_n C iX10_isSingle_70 rfl rfl ?_
        refine J_aload_n C iX10_isSingle_71 rfl rfl ?_
        refine J_cV (As := [.ref (pn 0)]) (st := []) (rc2 := (rmK (40 - 4 * d)).cells) (rs2 := (rmK (40 - 4 * d)).slots) C iX10_isSingle_72 lm_X10_293 yc_X10_isTest yv_X10_isTest (htst (e := e) (a := a) (o := o) (g := g) (j := j) d_66 (by omega) (by omega) (fun k h1 h2 => hme k (by omega) h2)) (q0 := 0) rfl rfl rfl rfl (rmK_le (by omega) (by decide)) (Nat.le_of_ble_eq_true rfl) rfl rfl ?_
        rintro _ _ (⟨i67, s67, me67, od67, wi67, al67, e67, a67, o67, g67, j67, rfl, rfl, R67, G67⟩ | ⟨i67, dp67, mn67, me67, od67, wi67, al67, rfl, rfl, hL67, B67⟩)
        · refine J_st (.int (b2i true) :: []) rfl ?_
          have hil67 := G67.il
          have hiL67 := G67.iL
          have hsl67 := G67.sl
          have hss67 := G67.ss
          have hme67 : ∀ k, i67 ≤ k → k ≤ Lt → me67 k = 0 := fun k h1 h2 => (G67.fm k (Or.inr h1)).trans (hme k (by omega) h2)
          refine J_ifeqb 91 C iX10_isSingle_75 rfl (fun h75 => absurd (h75.symm.trans rfl) (by decide)) (fun h75 => ?_)
          refine J_aload_n C iX10_isSingle_78 rfl rfl ?_
          refine J_bipush 93 C iX10_isSingle_79 rfl ?_
          refine J_cV (As := [.int 93]) (st := []) (rc2 := (rmK (40 - 4 * d)).cells) (rs2 := (rmK (40 - 4 * d)).slots) C iX10_isSingle_81 lm_X10_296 yc_X10_closes yv_X10_closes (c_X10_closes (d := d) (k := 27) rfl (by decide) (by decide) (by decide) hLt hkd htq hend hva (by omega)) (q0 := 0) rfl rfl rfl rfl (rmK_le (by omega) (by decide)) (Nat.le_of_ble_eq_true rfl) rfl rfl ?_
          rintro _ _ (⟨rfl, rfl, t_68, l_68⟩ | ⟨rfl, rfl, n_68⟩)
          · refine J_st (.int (b2i true) :: []) rfl ?_
            refine J_ifeqb 91 C iX10_isSingle_84 rfl (fun h84 => absurd (h84.symm.trans rfl) (by decide)) (fun h84 => ?_)
            refine J_iconst 1 C iX10_isSingle_87 rfl ?_
            refine J_goto 92 C iX10_isSingle_88 rfl ?_
            exact J_zret C E iX10_isSingle_92 rfl (Or.inl ⟨(i67 + 1), s67, me67, od67, wi67, al67, e67, a67, o67, g67, j67, rfl, rfl, by rw [sglB, if_neg (now_ne (c := 19) t_66 (by decide)), if_pos (now_eq t_66), deep_ok d_66 t_66, if_neg brk_f, R67, takeC_ok t_68], (G67.post l_68 (hme _ (by omega) (by omega))).pre (hme _ (by omega) (by omega))⟩)
          · refine J_st (.int (b2i false) :: []) rfl ?_
            refine J_ifeqb 91 C iX10_isSingle_84 rfl (fun h84 => ?_) (fun h84 => absurd (h84.symm.trans rfl) (by decide))
            refine J_iconst 0 C iX10_isSingle_91 rfl ?_
            exact J_zret C E iX10_isSingle_92 rfl (Or.inr ⟨i67, nI (d + 1), nI s67, me67, od67, wi67, al67, rfl, rfl, by omega, by rw [sglB, if_neg (now_ne (c := 19) t_66 (by decide)), if_pos (now_eq t_66), deep_ok d_66 t_66, if_neg brk_f, R67]; exact Bk.no n_68⟩)
        · refine J_st (.int (b2i false) :: []) rfl ?_
          refine J_ifeqb 91 C iX10_isSingle_75 rfl (fun h75 => ?_) (fun h75 => absurd (h75.symm.trans rfl) (by decide))
          refine J_iconst 0 C iX10_isSingle_91 rfl ?_
          exact J_zret C E iX10_isSingle_92 rfl (Or.inr ⟨i67, dp67, mn67, me67, od67, wi67, al67, rfl, rfl, by omega, by rw [sglB, if_neg (now_ne (c := 19) t_66 (by decide)), if_pos (now_eq t_66), deep_ok d_66 t_66, if_neg brk_f]; exact B67.take (by decide)⟩)
      · refine J_st (.int (b2i false) :: []) rfl ?_
        refine J_ifeqb 91 C iX10_isSingle_67 rfl (fun h67 => ?_) (fun h67 => absurd (h67.symm.trans rfl) (by decide))
        refine J_iconst 0 C iX10_isSingle_91 rfl ?_
        exact J_zret C E iX10_isSingle_92 rfl (Or.inr ⟨i, nI d, nI s, me, od, wi, al, rfl, rfl, by omega, by rw [sglB, if_neg (now_ne (c := 19) t58 (by decide)), if_pos (now_eq t58), if_pos (Bk.deep n_66).brk]; exact Bk.deep n_66⟩)
  · have t13 : tq i = 19 := (kdT (k := 19) (hkd _ (by omega)) (htq _) (by decide) rfl).mp h13
    refine J_aload_n C iX10_isSingle_16 rfl rfl ?_
    refine J_bipush 19 C iX10_isSingle_17 rfl ?_
    refine J_cV (As := [.int 19]) (st := []) (rc2 := (rmK (40 - 4 * d)).cells) (rs2 := (rmK (40 - 4 * d)).slots) C iX10_isSingle_19 lm_X10_290 yc_X10_deeper yv_X10_deeper (c_X10_deeper (k := 19) rfl (by decide) (by decide) (by decide) hLt hkd htq hend hva (by omega) (by omega)) (q0 := 0) rfl rfl rfl rfl (rmK_le (by omega) (by decide)) (Nat.le_of_ble_eq_true rfl) rfl rfl ?_
    rintro _ _ (⟨rfl, rfl, t_69, l_69, d_69⟩ | ⟨rfl, rfl, n_69⟩)
    · refine J_st (.int (b2i true) :: []) rfl ?_
      refine J_ifeqb 33 C iX10_isSingle_22 rfl (fun h22 => absurd (h22.symm.trans rfl) (by decide)) (fun h22 => ?_)
      refine J_aload_n C iX10_isSingle_25 rfl rfl ?_
      refine J_aload_n C iX10_isSingle_26 rfl rfl ?_
      refine J_cV (As := [.ref (pn 0)]) (st := []) (rc2 := (rmK (40 - 4 * d)).cells) (rs2 := (rmK (40 - 4 * d)).slots) C iX10_isSingle_27 lm_X10_287 yc_X10_isSingle yv_X10_isSingle (hu (e := e) (a := a) (o := o) (g := g) (j := j) d_69 (by omega) (by omega) (fun k h1 h2 => hme k (by omega) h2)) (q0 := 0) rfl rfl rfl rfl (rmK_le (by omega) (by decide)) (Nat.le_of_ble_eq_true rfl) rfl rfl ?_
      rintro _ _ (⟨i70, s70, me70, od70, wi70, al70, e70, a70, o70, g70, j70, rfl, rfl, R70, G70⟩ | ⟨i70, dp70, mn70, me70, od70, wi70, al70, rfl, rfl, hL70, B70⟩)
      · refine J_st (.int (b2i true) :: []) rfl ?_
        have hil70 := G70.il
        have hiL70 := G70.iL
        have hsl70 := G70.sl
        have hss70 := G70.ss
        have hme70 : ∀ k, i70 ≤ k → k ≤ Lt → me70 k = 0 := fun k h1 h2 => (G70.fm k (Or.inr h1)).trans (hme k (by omega) h2)
        refine J_ifneb 35 C iX10_isSingle_30 rfl (fun h30 => ?_) (fun h30 => absurd (h30.symm.trans rfl) (by decide))
        refine J_aload_n C iX10_isSingle_35 rfl rfl ?_
        refine J_dup C iX10_isSingle_36 rfl ?_
        refine J_get (.int (nI (d + 1))) 0 C iX10_isSingle_37 gf_X10_269 rfl rfl ?_
        refine J_iconst 1 C iX10_isSingle_40 rfl ?_
        refine J_isub C iX10_isSingle_41 ?_
        rw [show (nI (d + 1)) - 1 = nI d from nI_dec]
        refine J_put (wMd Z mo pl th sz ea (nI i70) (nI d) lr dy ca kn tp kd fr me70 va wo pc ht fs la kh kf kl sh dk sk ++ wPl Z pn hs ls (nI s70) hn ha hh dz wh bg en od70 wi70 al70) 0 C iX10_isSingle_42 pf_X10_269 rfl rfl rfl (Nat.le_of_ble_eq_true rfl) rfl ?_
        refine J_aload_n C iX10_isSingle_45 rfl rfl ?_
        refine J_aload_n C iX10_isSingle_46 rfl rfl ?_
        refine J_bipush 19 C iX10_isSingle_47 rfl ?_
        refine J_iconst 0 C iX10_isSingle_49 rfl ?_
        refine J_cV (As := [.ref (pn 0), .int 19, .int 0]) (st := []) (rc2 := (rmK (40 - 4 * d)).cells) (rs2 := (rmK (40 - 4 * d)).slots) C iX10_isSingle_50 lm_X10_279 yc_X10_put yv_X10_put (c_X10_put (s := s70) (by omega)) (q0 := 0) rfl rfl rfl rfl (rmK_le (by omega) (by decide)) (Nat.le_of_ble_eq_true rfl) rfl rfl ?_
        rintro _ _ ⟨rfl, rfl⟩
        refine J_st ([]) rfl ?_
        refine J_iconst 1 C iX10_isSingle_53 rfl ?_
        exact J_zret C E iX10_isSingle_54 rfl (Or.inl ⟨i70, (s70 + 1), me70, upd od70 s70 19, upd wi70 s70 0, al70, e70, a70, upd o70 s70 9, upd g70 s70 0, upd j70 s70 0, rfl, rfl, by rw [sglB, if_pos (now_eq t_69), deep_ok d_69 t_69, if_neg brk_f, R70, stepC_lt (by omega)], G70.un (c := 9) (hme _ (by omega) (by omega)) rfl⟩)
      · refine J_st (.int (b2i false) :: []) rfl ?_
        refine J_ifneb 35 C iX10_isSingle_30 rfl (fun h30 => absurd (h30.symm.trans rfl) (by decide)) (fun h30 => ?_)
        refine J_iconst 0 C iX10_isSingle_33 rfl ?_
        exact J_zret C E iX10_isSingle_34 rfl (Or.inr ⟨i70, dp70, mn70, me70, od70, wi70, al70, rfl, rfl, by omega, by rw [sglB, if_pos (now_eq t_69), deep_ok d_69 t_69, if_neg brk_f]; exact B70.step⟩)
    · refine J_st (.int (b2i false) :: []) rfl ?_
      refine J_ifeqb 33 C iX10_isSingle_22 rfl (fun h22 => ?_) (fun h22 => absurd (h22.symm.trans rfl) (by decide))
      refine J_iconst 0 C iX10_isSingle_33 rfl ?_
      exact J_zret C E iX10_isSingle_34 rfl (Or.inr ⟨i, nI d, nI s, me, od, wi, al, rfl, rfl, by omega, by rw [sglB, if_pos (now_eq t13), if_pos (Bk.deep n_69).brk]; exact Bk.deep n_69⟩)

set_option maxRecDepth 100000 in
set_option maxHeartbeats 4000000 in
theorem c_X10_isBoth {Z : GZ} {l : Launch} {mo pl pn : Nat → Nat} {th sz ea lr dy ca hs ls : Int32} {kn : Bool} {hn va : Nat → Int64} {ha hh dz wh bg en tp kd fr wo pc ht fs la kh kf kl sh dk sk : Nat → Int32} {Lt m : Nat} {tq : Nat → Nat} {sq : Nat → Int32} {vq nm : Nat → Int64} {vv : PS → PS} (hfv : Fro vv) {i s : Nat} {me od wi al : Nat → Int32} {e a : Int32} {o g j : Nat → Int32} {d : Nat} (hLt : Lt ≤ 400) (hkd : ∀ i, i ≤ Lt → kd i = km (tq i)) (htq : ∀ i, tq i < 43) (hend : ∀ i, i ≤ Lt → tq i ≠ 41 → tq i ≠ 42 → i < Lt) (hva : ∀ i, i ≤ Lt → tq i = 39 ∨ tq i = 40 → va i = vq i) (hd : d ≤ 8) (hv : ∀ {i s : Nat} {me od wi al : Nat → Int32} {e a : Int32} {o g j : Nat → Int32}, i ≤ Lt → s ≤ i → (∀ k, i ≤ k → k ≤ Lt → me k = 0) → Ct Z l yX10_isSingle cX10_isSingle 3 (some .boolean) (rmK (40 - 4 * d)) [.ref (mo 0), .ref (pn 0)] (wMd Z mo pl th sz ea (nI i) (nI d) lr dy ca kn tp kd fr me va wo pc ht fs la kh kf kl sh dk sk ++ wPl Z pn hs ls (nI s) hn ha hh dz wh bg en od wi al) (fun v w => (∃ i2 s2 me2 od2 wi2 al2 e2 a2 o2 g2 j2, v = some (.int (b2i true)) ∧ w = (wMd Z mo pl th sz ea (nI i2) (nI d) lr dy ca kn tp kd fr me2 va wo pc ht fs la kh kf kl sh dk sk ++ wPl Z pn hs ls (nI s2) hn ha hh dz wh bg en od2 wi2 al2) ∧ vv (i, false, e, a, s, o, g, j) = (i2, false, e2, a2, s2, o2, g2, j2) ∧ Gd Lt tq sq vq nm m true i s me od wi al e a o g j i2 s2 me2 od2 wi2 al2 e2 a2 o2 g2 j2) ∨ (∃ i2 dp2 mn2 me2 od2 wi2 al2, v = some (.int (b2i false)) ∧ w = (wMd Z mo pl th sz ea (nI i2) dp2 lr dy ca kn tp kd fr me2 va wo pc ht fs la kh kf kl sh dk sk ++ wPl Z pn hs ls mn2 hn ha hh dz wh bg en od2 wi2 al2) ∧ i2 ≤ Lt ∧ Bk (vv (i, false, e, a, s, o, g, j)) i2 (sq i2)))) (hi : i ≤ Lt) (hs_ : s ≤ i) (hme : ∀ k, i ≤ k → k ≤ Lt → me k = 0)  : Ct Z l yX10_isBoth cX10_isBoth 2 (some .boolean) (rmK (41 - 4 * d)) [.ref (mo 0), .ref (pn 0)] (wMd Z mo pl th sz ea (nI i) (nI d) lr dy ca kn tp kd fr me va wo pc ht fs la kh kf kl sh dk sk ++ wPl Z pn hs ls (nI s) hn ha hh dz wh bg en od wi al) (fun v w => (∃ i2 s2 me2 od2 wi2 al2 e2 a2 o2 g2 j2, v = some (.int (b2i true)) ∧ w = (wMd Z mo pl th sz ea (nI i2) (nI d) lr dy ca kn tp kd fr me2 va wo pc ht fs la kh kf kl sh dk sk ++ wPl Z pn hs ls (nI s2) hn ha hh dz wh bg en od2 wi2 al2) ∧ bothC tq sq vv (i, false, e, a, s, o, g, j) = (i2, false, e2, a2, s2, o2, g2, j2) ∧ Gd Lt tq sq vq nm m true i s me od wi al e a o g j i2 s2 me2 od2 wi2 al2 e2 a2 o2 g2 j2) ∨ (∃ i2 dp2 mn2 me2 od2 wi2 al2, v = some (.int (b2i false)) ∧ w = (wMd Z mo pl th sz ea (nI i2) dp2 lr dy ca kn tp kd fr me2 va wo pc ht fs la kh kf kl sh dk sk ++ wPl Z pn hs ls mn2 hn ha hh dz wh bg en od2 wi2 al2) ∧ i2 ≤ Lt ∧ Bk (bothC tq sq vv (i, false, e, a, s, o, g, j)) i2 (sq i2))) := by
  refine Ct.ofJ (own := RX10) (nm := "isBoth") (lv0 := [(0, .ref (mo 0)), (1, .ref (pn 0))]) (by decide) rfl rfl (Nat.le_of_ble_eq_true rfl) rfl (fun X hXl C E => ?_)
  subst hXl
  refine J_aload_n C iX10_isBoth_0 rfl rfl ?_
  refine J_aload_n C iX10_isBoth_1 rfl rfl ?_
  refine J_cV (As := [.ref (pn 0)]) (st := []) (rc2 := (rmK (41 - 4 * d)).cells) (rs2 := (rmK (41 - 4 * d)).slots) C iX10_isBoth_2 lm_X10_287 yc_X10_isSingle yv_X10_isSingle (hv (e := e) (a := a) (o := o) (g := g) (j := j) (by omega) (by omega) (fun k h1 h2 => hme k (by omega) h2)) (q0 := 0) rfl rfl rfl rfl (rmK_le (by omega) (by decide)) (Nat.le_of_ble_eq_true rfl) rfl rfl ?_
  rintro _ _ (⟨i71, s71, me71, od71, wi71, al71, e71, a71, o71, g71, j71, rfl, rfl, R71, G71⟩ | ⟨i71, dp71, mn71, me71, od71, wi71, al71, rfl, rfl, hL71, B71⟩)
  · refine J_st (.int (b2i true) :: []) rfl ?_
    have hil71 := G71.il
    have hiL71 := G71.iL
    have hsl71 := G71.sl
    have hss71 := G71.ss
    have hme71 : ∀ k, i71 ≤ k → k ≤ Lt → me71 k = 0 := fun k h1 h2 => (G71.fm k (Or.inr h1)).trans (hme k (by omega) h2)
    refine J_ifneb 10 C iX10_isBoth_5 rfl (fun h5 => ?_) (fun h5 => absurd (h5.symm.trans rfl) (by decide))
    refine J_lvm [(0, .ref (mo 0)), (1, .ref (pn 0))] (by rfl) ?_
    refine J_whl (σ := Nat × Nat × (Nat → Int32) × (Nat → Int32) × (Nat → Int32) × (Nat → Int32) × Int32 × Int32 × (Nat → Int32) × (Nat → Int32) × (Nat → Int32) × Nat) (fun q => [(0, .ref (mo 0)), (1, .ref (pn 0))]) (fun q => (wMd Z mo pl th sz ea (nI q.1) (nI d) lr dy ca kn tp kd fr q.2.2.1 va wo pc ht fs la kh kf kl sh dk sk ++ wPl Z pn hs ls (nI q.2.1) hn ha hh dz wh bg en q.2.2.2.1 q.2.2.2.2.1 q.2.2.2.2.2.1)) (fun q => (loopD tq sq 20 21 (vv) q.2.2.2.2.2.2.2.2.2.2.2 (q.1, false, q.2.2.2.2.2.2.1, q.2.2.2.2.2.2.2.1, q.2.1, q.2.2.2.2.2.2.2.2.1, q.2.2.2.2.2.2.2.2.2.1, q.2.2.2.2.2.2.2.2.2.2.1) = bothC tq sq vv (i, false, e, a, s, o, g, j)) ∧ 400 ≤ q.2.2.2.2.2.2.2.2.2.2.2 + q.1 ∧ Gd Lt tq sq vq nm m true i s me od wi al e a o g j q.1 q.2.1 q.2.2.1 q.2.2.2.1 q.2.2.2.2.1 q.2.2.2.2.2.1 q.2.2.2.2.2.2.1 q.2.2.2.2.2.2.2.1 q.2.2.2.2.2.2.2.2.1 q.2.2.2.2.2.2.2.2.2.1 q.2.2.2.2.2.2.2.2.2.2.1) (fun q => Lt - q.1) (i71, s71, me71, od71, wi71, al71, e71, a71, o71, g71, j71, 400) ⟨by rw [bothC, R71], by dsimp only; omega, G71⟩ ?_
    rintro ⟨i72, s72, me72, od72, wi72, al72, e72, a72, o72, g72, j72, f72⟩ ⟨hL72, hf72, G72⟩ ih72
    dsimp only at hL72 hf72 G72 ih72 ⊢
    have hil72 := G72.il
    have hiL72 := G72.iL
    have hsl72 := G72.sl
    have hss72 := G72.ss
    have hme72 : ∀ k, i72 ≤ k → k ≤ Lt → me72 k = 0 := fun k h1 h2 => (G72.fm k (Or.inr h1)).trans (hme k (by omega) h2)
    refine J_aload_n C iX10_isBoth_10 rfl rfl ?_
    refine J_bipush 20 C iX10_isBoth_11 rfl ?_
    refine J_cV (As := [.int 20]) (st := []) (rc2 := (rmK (41 - 4 * d)).cells) (rs2 := (rmK (41 - 4 * d)).slots) C iX10_isBoth_13 lm_X10_266 yc_X10_eat yv_X10_eat (c_X10_eat (k := 20) rfl (by decide) (by decide) (by decide) hLt hkd htq hend hva (by omega)) (q0 := 0) rfl rfl rfl rfl (rmK_le (by omega) (by decide)) (Nat.le_of_ble_eq_true rfl) rfl rfl ?_
    rintro _ _ (⟨rfl, rfl, t_73, l_73⟩ | ⟨rfl, rfl, n_73⟩)
    · refine J_st (.int (b2i true) :: []) rfl ?_
      refine J_ifeqb 40 C iX10_isBoth_16 rfl (fun h16 => absurd (h16.symm.trans rfl) (by decide)) (fun h16 => ?_)
      refine J_aload_n C iX10_isBoth_19 rfl rfl ?_
      refine J_aload_n C iX10_isBoth_20 rfl rfl ?_
      refine J_cV (As := [.ref (pn 0)]) (st := []) (rc2 := (rmK (41 - 4 * d)).cells) (rs2 := (rmK (41 - 4 * d)).slots) C iX10_isBoth_21 lm_X10_287 yc_X10_isSingle yv_X10_isSingle (hv (e := e72) (a := a72) (o := o72) (g := g72) (j := j72) (by omega) (by omega) (fun k h1 h2 => hme72 k (by omega) h2)) (q0 := 0) rfl rfl rfl rfl (rmK_le (by omega) (by decide)) (Nat.le_of_ble_eq_true rfl) rfl rfl ?_
      rintro _ _ (⟨i74, s74, me74, od74, wi74, al74, e74, a74, o74, g74, j74, rfl, rfl, R74, G74⟩ | ⟨i74, dp74, mn74, me74, od74, wi74, al74, rfl, rfl, hL74, B74⟩)
      · refine J_st (.int (b2i true) :: []) rfl ?_
        have hil74 := G74.il
        have hiL74 := G74.iL
        have hsl74 := G74.sl
        have hss74 := G74.ss
        have hme74 : ∀ k, i74 ≤ k → k ≤ Lt → me74 k = 0 := fun k h1 h2 => (G74.fm k (Or.inr h1)).trans (hme72 k (by omega) h2)
        refine J_ifneb 29 C iX10_isBoth_24 rfl (fun h24 => ?_) (fun h24 => absurd (h24.symm.trans rfl) (by decide))
        refine J_aload_n C iX10_isBoth_29 rfl rfl ?_
        refine J_aload_n C iX10_isBoth_30 rfl rfl ?_
        refine J_bipush 20 C iX10_isBoth_31 rfl ?_
        refine J_iconst 0 C iX10_isBoth_33 rfl ?_
        refine J_cV (As := [.ref (pn 0), .int 20, .int 0]) (st := []) (rc2 := (rmK (41 - 4 * d)).cells) (rs2 := (rmK (41 - 4 * d)).slots) C iX10_isBoth_34 lm_X10_279 yc_X10_put yv_X10_put (c_X10_put (s := s74) (by omega)) (q0 := 0) rfl rfl rfl rfl (rmK_le (by omega) (by decide)) (Nat.le_of_ble_eq_true rfl) rfl rfl ?_
        rintro _ _ ⟨rfl, rfl⟩
        refine J_st ([]) rfl ?_
        refine J_goto 10 C iX10_isBoth_37 rfl ?_
        refine J_lvm [(0, .ref (mo 0)), (1, .ref (pn 0))] (by rfl) ?_
        exact ih72 (i74, (s74 + 1), me74, upd od74 s74 20, upd wi74 s74 0, al74, e74, a74, upd o74 s74 21, upd g74 s74 0, upd j74 s74 0, f72 - 1) ⟨by rw [← hL72, loopD_go1 (by omega) (now_eq t_73), takeC_ok t_73, R74, stepC_lt (by omega)], by dsimp only; omega, G72.bin (c := 21) G74 (hme _ (by omega) (by omega)) (Or.inr (Or.inr ⟨rfl, rfl, by decide, by decide⟩))⟩ (by dsimp only; omega)
      · refine J_st (.int (b2i false) :: []) rfl ?_
        refine J_ifneb 29 C iX10_isBoth_24 rfl (fun h24 => absurd (h24.symm.trans rfl) (by decide)) (fun h24 => ?_)
        refine J_iconst 0 C iX10_isBoth_27 rfl ?_
        exact J_zret C E iX10_isBoth_28 rfl (Or.inr ⟨i74, dp74, mn74, me74, od74, wi74, al74, rfl, rfl, by omega, by rw [← hL72, loopD_go1 (by omega) (now_eq t_73), takeC_ok t_73]; exact B74.step.lpD (by decide)⟩)
    · refine J_st (.int (b2i false) :: []) rfl ?_
      refine J_ifeqb 40 C iX10_isBoth_16 rfl (fun h16 => ?_) (fun h16 => absurd (h16.symm.trans rfl) (by decide))
      refine J_iconst 1 C iX10_isBoth_40 rfl ?_
      exact J_zret C E iX10_isBoth_41 rfl (Or.inl ⟨i72, s72, me72, od72, wi72, al72, e72, a72, o72, g72, j72, rfl, rfl, by rw [← hL72, loopD_out (now_nn n_73)], G72⟩)
  · refine J_st (.int (b2i false) :: []) rfl ?_
    refine J_ifneb 10 C iX10_isBoth_5 rfl (fun h5 => absurd (h5.symm.trans rfl) (by decide)) (fun h5 => ?_)
    refine J_iconst 0 C iX10_isBoth_8 rfl ?_
    exact J_zret C E iX10_isBoth_9 rfl (Or.inr ⟨i71, dp71, mn71, me71, od71, wi71, al71, rfl, rfl, by omega, by rw [bothC]; exact B71.lpD (by decide)⟩)

set_option maxRecDepth 100000 in
set_option maxHeartbeats 4000000 in
theorem c_X10_isTest {Z : GZ} {l : Launch} {mo pl pn : Nat → Nat} {th sz ea lr dy ca hs ls : Int32} {kn : Bool} {hn va : Nat → Int64} {ha hh dz wh bg en tp kd fr wo pc ht fs la kh kf kl sh dk sk : Nat → Int32} {Lt m : Nat} {tq : Nat → Nat} {sq : Nat → Int32} {vq nm : Nat → Int64} {vv : PS → PS} (hfv : Fro vv) {i s : Nat} {me od wi al : Nat → Int32} {e a : Int32} {o g j : Nat → Int32} {d : Nat} (hLt : Lt ≤ 400) (hkd : ∀ i, i ≤ Lt → kd i = km (tq i)) (htq : ∀ i, tq i < 43) (hend : ∀ i, i ≤ Lt → tq i ≠ 41 → tq i ≠ 42 → i < Lt) (hva : ∀ i, i ≤ Lt → tq i = 39 ∨ tq i = 40 → va i = vq i) (hd : d ≤ 8) (hv : ∀ {i s : Nat} {me od wi al : Nat → Int32} {e a : Int32} {o g j : Nat → Int32}, i ≤ Lt → s ≤ i → (∀ k, i ≤ k → k ≤ Lt → me k = 0) → Ct Z l yX10_isBoth cX10_isBoth 2 (some .boolean) (rmK (41 - 4 * d)) [.ref (mo 0), .ref (pn 0)] (wMd Z mo pl th sz ea (nI i) (nI d) lr dy ca kn tp kd fr me va wo pc ht fs la kh kf kl sh dk sk ++ wPl Z pn hs ls (nI s) hn ha hh dz wh bg en od wi al) (fun v w => (∃ i2 s2 me2 od2 wi2 al2 e2 a2 o2 g2 j2, v = some (.int (b2i true)) ∧ w = (wMd Z mo pl th sz ea (nI i2) (nI d) lr dy ca kn tp kd fr me2 va wo pc ht fs la kh kf kl sh dk sk ++ wPl Z pn hs ls (nI s2) hn ha hh dz wh bg en od2 wi2 al2) ∧ bothC tq sq vv (i, false, e, a, s, o, g, j) = (i2, false, e2, a2, s2, o2, g2, j2) ∧ Gd Lt tq sq vq nm m true i s me od wi al e a o g j i2 s2 me2 od2 wi2 al2 e2 a2 o2 g2 j2) ∨ (∃ i2 dp2 mn2 me2 od2 wi2 al2, v = some (.int (b2i false)) ∧ w = (wMd Z mo pl th sz ea (nI i2) dp2 lr dy ca kn tp kd fr me2 va wo pc ht fs la kh kf kl sh dk sk ++ wPl Z pn hs ls mn2 hn ha hh dz wh bg en od2 wi2 al2) ∧ i2 ≤ Lt ∧ Bk (bothC tq sq vv (i, false, e, a, s, o, g, j)) i2 (sq i2)))) (hi : i ≤ Lt) (hs_ : s ≤ i) (hme : ∀ k, i ≤ k → k ≤ Lt → me k = 0)  : Ct Z l yX10_isTest cX10_isTest 2 (some .boolean) (rmK (42 - 4 * d)) [.ref (mo 0), .ref (pn 0)] (wMd Z mo pl th sz ea (nI i) (nI d) lr dy ca kn tp kd fr me va wo pc ht fs la kh kf kl sh dk sk ++ wPl Z pn hs ls (nI s) hn ha hh dz wh bg en od wi al) (fun v w => (∃ i2 s2 me2 od2 wi2 al2 e2 a2 o2 g2 j2, v = some (.int (b2i true)) ∧ w = (wMd Z mo pl th sz ea (nI i2) (nI d) lr dy ca kn tp kd fr me2 va wo pc ht fs la kh kf kl sh dk sk ++ wPl Z pn hs ls (nI s2) hn ha hh dz wh bg en od2 wi2 al2) ∧ testC tq sq vv (i, false, e, a, s, o, g, j) = (i2, false, e2, a2, s2, o2, g2, j2) ∧ Gd Lt tq sq vq nm m true i s me od wi al e a o g j i2 s2 me2 od2 wi2 al2 e2 a2 o2 g2 j2) ∨ (∃ i2 dp2 mn2 me2 od2 wi2 al2, v = some (.int (b2i false)) ∧ w = (wMd Z mo pl th sz ea (nI i2) dp2 lr dy ca kn tp kd fr me2 va wo pc ht fs la kh kf kl sh dk sk ++ wPl Z pn hs ls mn2 hn ha hh dz wh bg en od2 wi2 al2) ∧ i2 ≤ Lt ∧ Bk (testC tq sq vv (i, false, e, a, s, o, g, j)) i2 (sq i2))) := by
  refine Ct.ofJ (own := RX10) (nm := "isTest") (lv0 := [(0, .ref (mo 0)), (1, .ref (pn 0))]) (by decide) rfl rfl (Nat.le_of_ble_eq_true rfl) rfl (fun X hXl C E => ?_)
  subst hXl
  refine J_aload_n C iX10_isTest_0 rfl rfl ?_
  refine J_aload_n C iX10_isTest_1 rfl rfl ?_
  refine J_cV (As := [.ref (pn 0)]) (st := []) (rc2 := (rmK (42 - 4 * d)).cells) (rs2 := (rmK (42 - 4 * d)).slots) C iX10_isTest_2 lm_X10_283 yc_X10_isBoth yv_X10_isBoth (hv (e := e) (a := a) (o := o) (g := g) (j := j) (by omega) (by omega) (fun k h1 h2 => hme k (by omega) h2)) (q0 := 0) rfl rfl rfl rfl (rmK_le (by omega) (by decide)) (Nat.le_of_ble_eq_true rfl) rfl rfl ?_
  rintro _ _ (⟨i75, s75, me75, od75, wi75, al75, e75, a75, o75, g75, j75, rfl, rfl, R75, G75⟩ | ⟨i75, dp75, mn75, me75, od75, wi75, al75, rfl, rfl, hL75, B75⟩)
  · refine J_st (.int (b2i true) :: []) rfl ?_
    have hil75 := G75.il
    have hiL75 := G75.iL
    have hsl75 := G75.sl
    have hss75 := G75.ss
    have hme75 : ∀ k, i75 ≤ k → k ≤ Lt → me75 k = 0 := fun k h1 h2 => (G75.fm k (Or.inr h1)).trans (hme k (by omega) h2)
    refine J_ifneb 10 C iX10_isTest_5 rfl (fun h5 => ?_) (fun h5 => absurd (h5.symm.trans rfl) (by decide))
    refine J_lvm [(0, .ref (mo 0)), (1, .ref (pn 0))] (by rfl) ?_
    refine J_whl (σ := Nat × Nat × (Nat → Int32) × (Nat → Int32) × (Nat → Int32) × (Nat → Int32) × Int32 × Int32 × (Nat → Int32) × (Nat → Int32) × (Nat → Int32) × Nat) (fun q => [(0, .ref (mo 0)), (1, .ref (pn 0))]) (fun q => (wMd Z mo pl th sz ea (nI q.1) (nI d) lr dy ca kn tp kd fr q.2.2.1 va wo pc ht fs la kh kf kl sh dk sk ++ wPl Z pn hs ls (nI q.2.1) hn ha hh dz wh bg en q.2.2.2.1 q.2.2.2.2.1 q.2.2.2.2.2.1)) (fun q => (loopD tq sq 21 22 (bothC tq sq vv) q.2.2.2.2.2.2.2.2.2.2.2 (q.1, false, q.2.2.2.2.2.2.1, q.2.2.2.2.2.2.2.1, q.2.1, q.2.2.2.2.2.2.2.2.1, q.2.2.2.2.2.2.2.2.2.1, q.2.2.2.2.2.2.2.2.2.2.1) = testC tq sq vv (i, false, e, a, s, o, g, j)) ∧ 400 ≤ q.2.2.2.2.2.2.2.2.2.2.2 + q.1 ∧ Gd Lt tq sq vq nm m true i s me od wi al e a o g j q.1 q.2.1 q.2.2.1 q.2.2.2.1 q.2.2.2.2.1 q.2.2.2.2.2.1 q.2.2.2.2.2.2.1 q.2.2.2.2.2.2.2.1 q.2.2.2.2.2.2.2.2.1 q.2.2.2.2.2.2.2.2.2.1 q.2.2.2.2.2.2.2.2.2.2.1) (fun q => Lt - q.1) (i75, s75, me75, od75, wi75, al75, e75, a75, o75, g75, j75, 400) ⟨by rw [testC, R75], by dsimp only; omega, G75⟩ ?_
    rintro ⟨i76, s76, me76, od76, wi76, al76, e76, a76, o76, g76, j76, f76⟩ ⟨hL76, hf76, G76⟩ ih76
    dsimp only at hL76 hf76 G76 ih76 ⊢
    have hil76 := G76.il
    have hiL76 := G76.iL
    have hsl76 := G76.sl
    have hss76 := G76.ss
    have hme76 : ∀ k, i76 ≤ k → k ≤ Lt → me76 k = 0 := fun k h1 h2 => (G76.fm k (Or.inr h1)).trans (hme k (by omega) h2)
    refine J_aload_n C iX10_isTest_10 rfl rfl ?_
    refine J_bipush 21 C iX10_isTest_11 rfl ?_
    refine J_cV (As := [.int 21]) (st := []) (rc2 := (rmK (42 - 4 * d)).cells) (rs2 := (rmK (42 - 4 * d)).slots) C iX10_isTest_13 lm_X10_266 yc_X10_eat yv_X10_eat (c_X10_eat (k := 21) rfl (by decide) (by decide) (by decide) hLt hkd htq hend hva (by omega)) (q0 := 0) rfl rfl rfl rfl (rmK_le (by omega) (by decide)) (Nat.le_of_ble_eq_true rfl) rfl rfl ?_
    rintro _ _ (⟨rfl, rfl, t_77, l_77⟩ | ⟨rfl, rfl, n_77⟩)
    · refine J_st (.int (b2i true) :: []) rfl ?_
      refine J_ifeqb 40 C iX10_isTest_16 rfl (fun h16 => absurd (h16.symm.trans rfl) (by decide)) (fun h16 => ?_)
      refine J_aload_n C iX10_isTest_19 rfl rfl ?_
      refine J_aload_n C iX10_isTest_20 rfl rfl ?_
      refine J_cV (As := [.ref (pn 0)]) (st := []) (rc2 := (rmK (42 - 4 * d)).cells) (rs2 := (rmK (42 - 4 * d)).slots) C iX10_isTest_21 lm_X10_283 yc_X10_isBoth yv_X10_isBoth (hv (e := e76) (a := a76) (o := o76) (g := g76) (j := j76) (by omega) (by omega) (fun k h1 h2 => hme76 k (by omega) h2)) (q0 := 0) rfl rfl rfl rfl (rmK_le (by omega) (by decide)) (Nat.le_of_ble_eq_true rfl) rfl rfl ?_
      rintro _ _ (⟨i78, s78, me78, od78, wi78, al78, e78, a78, o78, g78, j78, rfl, rfl, R78, G78⟩ | ⟨i78, dp78, mn78, me78, od78, wi78, al78, rfl, rfl, hL78, B78⟩)
      · refine J_st (.int (b2i true) :: []) rfl ?_
        have hil78 := G78.il
        have hiL78 := G78.iL
        have hsl78 := G78.sl
        have hss78 := G78.ss
        have hme78 : ∀ k, i78 ≤ k → k ≤ Lt → me78 k = 0 := fun k h1 h2 => (G78.fm k (Or.inr h1)).trans (hme76 k (by omega) h2)
        refine J_ifneb 29 C iX10_isTest_24 rfl (fun h24 => ?_) (fun h24 => absurd (h24.symm.trans rfl) (by decide))
        refine J_aload_n C iX10_isTest_29 rfl rfl ?_
        refine J_aload_n C iX10_isTest_30 rfl rfl ?_
        refine J_bipush 21 C iX10_isTest_31 rfl ?_
        refine J_iconst 0 C iX10_isTest_33 rfl ?_
        refine J_cV (As := [.ref (pn 0), .int 21, .int 0]) (st := []) (rc2 := (rmK (42 - 4 * d)).cells) (rs2 := (rmK (42 - 4 * d)).slots) C iX10_isTest_34 lm_X10_279 yc_X10_put yv_X10_put (c_X10_put (s := s78) (by omega)) (q0 := 0) rfl rfl rfl rfl (rmK_le (by omega) (by decide)) (Nat.le_of_ble_eq_true rfl) rfl rfl ?_
        rintro _ _ ⟨rfl, rfl⟩
        refine J_st ([]) rfl ?_
        refine J_goto 10 C iX10_isTest_37 rfl ?_
        refine J_lvm [(0, .ref (mo 0)), (1, .ref (pn 0))] (by rfl) ?_
        exact ih76 (i78, (s78 + 1), me78, upd od78 s78 21, upd wi78 s78 0, al78, e78, a78, upd o78 s78 22, upd g78 s78 0, upd j78 s78 0, f76 - 1) ⟨by rw [← hL76, loopD_go1 (by omega) (now_eq t_77), takeC_ok t_77, R78, stepC_lt (by omega)], by dsimp only; omega, G76.bin (c := 22) G78 (hme _ (by omega) (by omega)) (Or.inr (Or.inr ⟨rfl, rfl, by decide, by decide⟩))⟩ (by dsimp only; omega)
      · refine J_st (.int (b2i false) :: []) rfl ?_
        refine J_ifneb 29 C iX10_isTest_24 rfl (fun h24 => absurd (h24.symm.trans rfl) (by decide)) (fun h24 => ?_)
        refine J_iconst 0 C iX10_isTest_27 rfl ?_
        exact J_zret C E iX10_isTest_28 rfl (Or.inr ⟨i78, dp78, mn78, me78, od78, wi78, al78, rfl, rfl, by omega, by rw [← hL76, loopD_go1 (by omega) (now_eq t_77), takeC_ok t_77]; exact B78.step.lpD (by decide)⟩)
    · refine J_st (.int (b2i false) :: []) rfl ?_
      refine J_ifeqb 40 C iX10_isTest_16 rfl (fun h16 => ?_) (fun h16 => absurd (h16.symm.trans rfl) (by decide))
      refine J_iconst 1 C iX10_isTest_40 rfl ?_
      exact J_zret C E iX10_isTest_41 rfl (Or.inl ⟨i76, s76, me76, od76, wi76, al76, e76, a76, o76, g76, j76, rfl, rfl, by rw [← hL76, loopD_out (now_nn n_77)], G76⟩)
  · refine J_st (.int (b2i false) :: []) rfl ?_
    refine J_ifneb 10 C iX10_isTest_5 rfl (fun h5 => absurd (h5.symm.trans rfl) (by decide)) (fun h5 => ?_)
    refine J_iconst 0 C iX10_isTest_8 rfl ?_
    exact J_zret C E iX10_isTest_9 rfl (Or.inr ⟨i75, dp75, mn75, me75, od75, wi75, al75, rfl, rfl, by omega, by rw [testC]; exact B75.lpD (by decide)⟩)

