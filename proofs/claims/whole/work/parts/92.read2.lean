set_option maxRecDepth 100000 in
set_option maxHeartbeats 4000000 in
theorem c_X10_settle {Z : GZ} {l : Launch} {mo pl pn : Nat → Nat} {th sz ea tk dp lr dy ca hs ls : Int32} {kn : Bool} {hn va : Nat → Int64} {ha hh dz wh bg en od wi al tp kd fr me wo pc ht fs la kh kf kl sh dk sk : Nat → Int32} {m s i2 : Nat} {tq : Nat → Nat} {nm vq : Nat → Int64} {o g j : Nat → Int32} (hs8 : s ≤ 400) (hi2 : i2 ≤ 400) (hrow : ∀ r, r < s → RowM vq nm m tq me i2 (od r) (wi r) (al r) (o r) (g r) (j r)) (hwo : ∀ k, k < i2 → me k = 6 → wo k = hnF nm (vq k) m ∧ hnF nm (vq k) m ≠ -1)  : Ct Z l yX10_settle cX10_settle 4 none (rmK 3) [.ref (mo 0), .ref (pn 0)] (wMd Z mo pl th sz ea tk dp lr dy ca kn tp kd fr me va wo pc ht fs la kh kf kl sh dk sk ++ wPl Z pn hs ls (nI s) hn ha hh dz wh bg en od wi al) (fun v w => ∃ wi2 al2, v = none ∧ w = (wMd Z mo pl th sz ea tk dp lr dy ca kn tp kd fr me va wo pc ht fs la kh kf kl sh dk sk ++ wPl Z pn hs ls (nI s) hn ha hh dz wh bg en od wi2 al2) ∧ ∀ r, r < s → RowS m (od r) (wi2 r) (al2 r) (o r) (g r) (j r)) := by
  refine Ct.ofJ (own := RX10) (nm := "settle") (lv0 := [(0, .ref (mo 0)), (1, .ref (pn 0))]) (by decide) rfl rfl (Nat.le_of_ble_eq_true rfl) rfl (fun X hXl C E => ?_)
  subst hXl
  refine J_iconst 0 C iX10_settle_0 rfl ?_
  refine J_istore_n [(2, .int 0), (0, .ref (mo 0)), (1, .ref (pn 0))] C iX10_settle_1 rfl (by decide) rfl ?_
  refine J_lvm [(2, .int 0), (0, .ref (mo 0)), (1, .ref (pn 0))] (by rfl) ?_
  refine J_forI (σ := (Nat → Int32) × (Nat → Int32)) (fun k q => [(2, .int (nI k)), (0, .ref (mo 0)), (1, .ref (pn 0))]) (fun k q => (wMd Z mo pl th sz ea tk dp lr dy ca kn tp kd fr me va wo pc ht fs la kh kf kl sh dk sk ++ wPl Z pn hs ls (nI s) hn ha hh dz wh bg en od q.1 q.2)) (fun k q => (∀ r, r < k → RowS m (od r) (q.1 r) (q.2 r) (o r) (g r) (j r)) ∧ ∀ r, k ≤ r → q.1 r = wi r ∧ q.2 r = al r) s 0 (wi, al) (by omega) ⟨fun r hr => absurd hr (Nat.not_lt_zero _), fun r hr => ⟨rfl, rfl⟩⟩ ?_ ?_
  · rintro ⟨wi5, al5⟩ hI
    dsimp only at hI ⊢
    refine J_iload_n C iX10_settle_2 rfl rfl ?_
    refine J_aload_n C iX10_settle_3 rfl rfl ?_
    refine J_get (.int (nI s)) 17 C iX10_settle_4 gf_X10_272 rfl rfl ?_
    refine J_icmpge 86 C iX10_settle_7 rfl (fun h7 => ?_) (fun h7 => absurd (nI_le (Nat.le_refl s) (by omega)) h7)
    exact J_vret C E iX10_settle_86 ⟨wi5, al5, rfl, rfl, hI.1⟩
  · rintro k ⟨wi5, al5⟩ hk0 hk hI ih
    dsimp only at hI ⊢
    have hwk := (hI.2 k (Nat.le_refl _)).1
    have hak := (hI.2 k (Nat.le_refl _)).2
    refine J_iload_n C iX10_settle_2 rfl rfl ?_
    refine J_aload_n C iX10_settle_3 rfl rfl ?_
    refine J_get (.int (nI s)) 17 C iX10_settle_4 gf_X10_272 rfl rfl ?_
    refine J_icmpge 86 C iX10_settle_7 rfl (fun h7 => absurd h7 (nI_ge hk (by omega))) (fun h7 => ?_)
    refine J_aload_n C iX10_settle_10 rfl rfl ?_
    refine J_get (.ref (pn 8)) 17 C iX10_settle_11 gf_X10_198 rfl rfl ?_
    refine J_iload_n C iX10_settle_14 rfl rfl ?_
    refine J_iald 25 C iX10_settle_15 rfl (vp_in_nI (n := k) (by omega) (by decide)) ?_
    rw [nI_clamp (n := k) (by omega)]
    refine J_istore_n [(3, .int (od k)), (2, .int (nI k)), (0, .ref (mo 0)), (1, .ref (pn 0))] C iX10_settle_16 rfl (by decide) rfl ?_
    rcases row_kind (hrow k hk) hwo with ⟨e17, k1, k2, b1, b2, w1, w2, hS⟩ | ⟨e9, k1, b1, w1, hS⟩ | ⟨n17, n18, nin, hS⟩
    · rw [hwk.symm] at w1
      rw [hak.symm] at w2
      refine J_lvm [(3, .int 17), (2, .int (nI k)), (0, .ref (mo 0)), (1, .ref (pn 0))] (by rw [e17]; rfl) ?_
      refine J_iload_n C iX10_settle_17 rfl rfl ?_
      refine J_bipush 17 C iX10_settle_18 rfl ?_
      refine J_icmpne 40 C iX10_settle_20 rfl (fun h20 => absurd (by decide) h20) (fun h20 => ?_)
      refine J_aload_n C iX10_settle_23 rfl rfl ?_
      refine J_get (.ref (pn 10)) 17 C iX10_settle_24 gf_X10_207 rfl rfl ?_
      refine J_iload_n C iX10_settle_27 rfl rfl ?_
      refine J_aload_n C iX10_settle_28 rfl rfl ?_
      refine J_get (.ref (mo 6)) 0 C iX10_settle_29 gf_X10_37 rfl rfl ?_
      refine J_aload_n C iX10_settle_32 rfl rfl ?_
      refine J_get (.ref (pn 10)) 17 C iX10_settle_33 gf_X10_207 rfl rfl ?_
      refine J_iload_n C iX10_settle_36 rfl rfl ?_
      refine J_iald 27 C iX10_settle_37 rfl (vp_in_nI (n := k) (by omega) (by decide)) ?_
      rw [nI_clamp (n := k) (by omega)]
      rw [w2]
      refine J_iald 6 C iX10_settle_38 rfl (vp_in_nI (n := k2) (by omega) (by decide)) ?_
      rw [nI_clamp (n := k2) (by omega)]
      refine J_iast (wMd Z mo pl th sz ea tk dp lr dy ca kn tp kd fr me va wo pc ht fs la kh kf kl sh dk sk ++ wPl Z pn hs ls (nI s) hn ha hh dz wh bg en od wi5 (upd al5 (nI k).toNatClampNeg (wo k2))) 27 C iX10_settle_39 rfl (vp_in_nI (n := k) (by omega) (by decide)) rfl ?_
      rw [nI_clamp (n := k) (by omega)]
      refine J_iload_n C iX10_settle_40 rfl rfl ?_
      refine J_bipush 12 C iX10_settle_41 rfl ?_
      refine J_bipush 14 C iX10_settle_43 rfl ?_
      refine J_cSp (As := [.int 17, .int 12, .int 14]) (st := []) C iX10_settle_45 lm_X10_76 yc_X10_isIn ys_X10_isIn (c_X10_isIn (q := 17) (a := 12) (b := 14)) rfl (rmK_le (by omega) (by decide)) (Nat.le_of_ble_eq_true rfl) ⟨rfl, rfl⟩ ?_
      rintro _ rfl
      refine J_st (.int (b2i (inX 17 12 14)) :: []) rfl ?_
      refine J_ifneb 63 C iX10_settle_48 rfl (fun h48 => absurd (h48.symm.trans (by decide : inX 17 12 14 = false)) (by decide)) (fun h48 => ?_)
      refine J_iload_n C iX10_settle_51 rfl rfl ?_
      refine J_bipush 17 C iX10_settle_52 rfl ?_
      refine J_icmpeq 63 C iX10_settle_54 rfl (fun h54 => ?_) (fun h54 => absurd (by decide) h54)
      refine J_aload_n C iX10_settle_63 rfl rfl ?_
      refine J_get (.ref (pn 9)) 17 C iX10_settle_64 gf_X10_204 rfl rfl ?_
      refine J_iload_n C iX10_settle_67 rfl rfl ?_
      refine J_aload_n C iX10_settle_68 rfl rfl ?_
      refine J_get (.ref (mo 6)) 0 C iX10_settle_69 gf_X10_37 rfl rfl ?_
      refine J_aload_n C iX10_settle_72 rfl rfl ?_
      refine J_get (.ref (pn 9)) 17 C iX10_settle_73 gf_X10_204 rfl rfl ?_
      refine J_iload_n C iX10_settle_76 rfl rfl ?_
      refine J_iald 26 C iX10_settle_77 rfl (vp_in_nI (n := k) (by omega) (by decide)) ?_
      rw [nI_clamp (n := k) (by omega)]
      rw [w1]
      refine J_iald 6 C iX10_settle_78 rfl (vp_in_nI (n := k1) (by omega) (by decide)) ?_
      rw [nI_clamp (n := k1) (by omega)]
      refine J_iast (wMd Z mo pl th sz ea tk dp lr dy ca kn tp kd fr me va wo pc ht fs la kh kf kl sh dk sk ++ wPl Z pn hs ls (nI s) hn ha hh dz wh bg en od (upd wi5 (nI k).toNatClampNeg (wo k1)) (upd al5 k (wo k2))) 26 C iX10_settle_79 rfl (vp_in_nI (n := k) (by omega) (by decide)) rfl ?_
      rw [nI_clamp (n := k) (by omega)]
      refine J_iinc ((nI k) + 1) [(2, .int ((nI k) + 1)), (3, .int 17), (0, .ref (mo 0)), (1, .ref (pn 0))] C iX10_settle_80 rfl rfl (by decide) rfl ?_
      rw [show (nI k) + 1 = nI (k + 1) from nI_add _ _]
      refine J_goto 2 C iX10_settle_83 rfl ?_
      refine J_lvm [(2, .int (nI (k + 1))), (0, .ref (mo 0)), (1, .ref (pn 0))] rfl ?_
      exact ih (upd wi5 k (wo k1), upd al5 k (wo k2)) (by dsimp only; exact ⟨fun r hr => (Classical.em (r = k)).elim (fun z => by rw [z, upd_s, upd_s]; exact hS) (fun z => by rw [upd_n z, upd_n z]; exact hI.1 r (by omega)), fun r hr => by rw [upd_n (by omega), upd_n (by omega)]; exact hI.2 r (by omega)⟩)
    · rw [hwk.symm] at w1
      rcases e9 with e17 | e17 | e17 | e17
      · refine J_lvm [(3, .int 12), (2, .int (nI k)), (0, .ref (mo 0)), (1, .ref (pn 0))] (by rw [e17]; rfl) ?_
        refine J_iload_n C iX10_settle_17 rfl rfl ?_
        refine J_bipush 17 C iX10_settle_18 rfl ?_
        refine J_icmpne 40 C iX10_settle_20 rfl (fun h20 => ?_) (fun h20 => absurd h20 (by decide))
        refine J_iload_n C iX10_settle_40 rfl rfl ?_
        refine J_bipush 12 C iX10_settle_41 rfl ?_
        refine J_bipush 14 C iX10_settle_43 rfl ?_
        refine J_cSp (As := [.int 12, .int 12, .int 14]) (st := []) C iX10_settle_45 lm_X10_76 yc_X10_isIn ys_X10_isIn (c_X10_isIn (q := 12) (a := 12) (b := 14)) rfl (rmK_le (by omega) (by decide)) (Nat.le_of_ble_eq_true rfl) ⟨rfl, rfl⟩ ?_
        rintro _ rfl
        refine J_st (.int (b2i (inX 12 12 14)) :: []) rfl ?_
        refine J_ifneb 63 C iX10_settle_48 rfl (fun h48 => ?_) (fun h48 => absurd (h48.symm.trans (by decide : inX 12 12 14 = true)) (by decide))
        refine J_aload_n C iX10_settle_63 rfl rfl ?_
        refine J_get (.ref (pn 9)) 17 C iX10_settle_64 gf_X10_204 rfl rfl ?_
        refine J_iload_n C iX10_settle_67 rfl rfl ?_
        refine J_aload_n C iX10_settle_68 rfl rfl ?_
        refine J_get (.ref (mo 6)) 0 C iX10_settle_69 gf_X10_37 rfl rfl ?_
        refine J_aload_n C iX10_settle_72 rfl rfl ?_
        refine J_get (.ref (pn 9)) 17 C iX10_settle_73 gf_X10_204 rfl rfl ?_
        refine J_iload_n C iX10_settle_76 rfl rfl ?_
        refine J_iald 26 C iX10_settle_77 rfl (vp_in_nI (n := k) (by omega) (by decide)) ?_
        rw [nI_clamp (n := k) (by omega)]
        rw [w1]
        refine J_iald 6 C iX10_settle_78 rfl (vp_in_nI (n := k1) (by omega) (by decide)) ?_
        rw [nI_clamp (n := k1) (by omega)]
        refine J_iast (wMd Z mo pl th sz ea tk dp lr dy ca kn tp kd fr me va wo pc ht fs la kh kf kl sh dk sk ++ wPl Z pn hs ls (nI s) hn ha hh dz wh bg en od (upd wi5 (nI k).toNatClampNeg (wo k1)) al5) 26 C iX10_settle_79 rfl (vp_in_nI (n := k) (by omega) (by decide)) rfl ?_
        rw [nI_clamp (n := k) (by omega)]
        refine J_iinc ((nI k) + 1) [(2, .int ((nI k) + 1)), (3, .int 12), (0, .ref (mo 0)), (1, .ref (pn 0))] C iX10_settle_80 rfl rfl (by decide) rfl ?_
        rw [show (nI k) + 1 = nI (k + 1) from nI_add _ _]
        refine J_goto 2 C iX10_settle_83 rfl ?_
        refine J_lvm [(2, .int (nI (k + 1))), (0, .ref (mo 0)), (1, .ref (pn 0))] rfl ?_
        exact ih (upd wi5 k (wo k1), al5) (by dsimp only; exact ⟨fun r hr => (Classical.em (r = k)).elim (fun z => by rw [z, upd_s]; exact hS _) (fun z => by rw [upd_n z]; exact hI.1 r (by omega)), fun r hr => by rw [upd_n (by omega)]; exact hI.2 r (by omega)⟩)
      · refine J_lvm [(3, .int 13), (2, .int (nI k)), (0, .ref (mo 0)), (1, .ref (pn 0))] (by rw [e17]; rfl) ?_
        refine J_iload_n C iX10_settle_17 rfl rfl ?_
        refine J_bipush 17 C iX10_settle_18 rfl ?_
        refine J_icmpne 40 C iX10_settle_20 rfl (fun h20 => ?_) (fun h20 => absurd h20 (by decide))
        refine J_iload_n C iX10_settle_40 rfl rfl ?_
        refine J_bipush 12 C iX10_settle_41 rfl ?_
        refine J_bipush 14 C iX10_settle_43 rfl ?_
        refine J_cSp (As := [.int 13, .int 12, .int 14]) (st := []) C iX10_settle_45 lm_X10_76 yc_X10_isIn ys_X10_isIn (c_X10_isIn (q := 13) (a := 12) (b := 14)) rfl (rmK_le (by omega) (by decide)) (Nat.le_of_ble_eq_true rfl) ⟨rfl, rfl⟩ ?_
        rintro _ rfl
        refine J_st (.int (b2i (inX 13 12 14)) :: []) rfl ?_
        refine J_ifneb 63 C iX10_settle_48 rfl (fun h48 => ?_) (fun h48 => absurd (h48.symm.trans (by decide : inX 13 12 14 = true)) (by decide))
        refine J_aload_n C iX10_settle_63 rfl rfl ?_
        refine J_get (.ref (pn 9)) 17 C iX10_settle_64 gf_X10_204 rfl rfl ?_
        refine J_iload_n C iX10_settle_67 rfl rfl ?_
        refine J_aload_n C iX10_settle_68 rfl rfl ?_
        refine J_get (.ref (mo 6)) 0 C iX10_settle_69 gf_X10_37 rfl rfl ?_
        refine J_aload_n C iX10_settle_72 rfl rfl ?_
        refine J_get (.ref (pn 9)) 17 C iX10_settle_73 gf_X10_204 rfl rfl ?_
        refine J_iload_n C iX10_settle_76 rfl rfl ?_
        refine J_iald 26 C iX10_settle_77 rfl (vp_in_nI (n := k) (by omega) (by decide)) ?_
        rw [nI_clamp (n := k) (by omega)]
        rw [w1]
        refine J_iald 6 C iX10_settle_78 rfl (vp_in_nI (n := k1) (by omega) (by decide)) ?_
        rw [nI_clamp (n := k1) (by omega)]
        refine J_iast (wMd Z mo pl th sz ea tk dp lr dy ca kn tp kd fr me va wo pc ht fs la kh kf kl sh dk sk ++ wPl Z pn hs ls (nI s) hn ha hh dz wh bg en od (upd wi5 (nI k).toNatClampNeg (wo k1)) al5) 26 C iX10_settle_79 rfl (vp_in_nI (n := k) (by omega) (by decide)) rfl ?_
        rw [nI_clamp (n := k) (by omega)]
        refine J_iinc ((nI k) + 1) [(2, .int ((nI k) + 1)), (3, .int 13), (0, .ref (mo 0)), (1, .ref (pn 0))] C iX10_settle_80 rfl rfl (by decide) rfl ?_
        rw [show (nI k) + 1 = nI (k + 1) from nI_add _ _]
        refine J_goto 2 C iX10_settle_83 rfl ?_
        refine J_lvm [(2, .int (nI (k + 1))), (0, .ref (mo 0)), (1, .ref (pn 0))] rfl ?_
        exact ih (upd wi5 k (wo k1), al5) (by dsimp only; exact ⟨fun r hr => (Classical.em (r = k)).elim (fun z => by rw [z, upd_s]; exact hS _) (fun z => by rw [upd_n z]; exact hI.1 r (by omega)), fun r hr => by rw [upd_n (by omega)]; exact hI.2 r (by omega)⟩)
      · refine J_lvm [(3, .int 14), (2, .int (nI k)), (0, .ref (mo 0)), (1, .ref (pn 0))] (by rw [e17]; rfl) ?_
        refine J_iload_n C iX10_settle_17 rfl rfl ?_
        refine J_bipush 17 C iX10_settle_18 rfl ?_
        refine J_icmpne 40 C iX10_settle_20 rfl (fun h20 => ?_) (fun h20 => absurd h20 (by decide))
        refine J_iload_n C iX10_settle_40 rfl rfl ?_
        refine J_bipush 12 C iX10_settle_41 rfl ?_
        refine J_bipush 14 C iX10_settle_43 rfl ?_
        refine J_cSp (As := [.int 14, .int 12, .int 14]) (st := []) C iX10_settle_45 lm_X10_76 yc_X10_isIn ys_X10_isIn (c_X10_isIn (q := 14) (a := 12) (b := 14)) rfl (rmK_le (by omega) (by decide)) (Nat.le_of_ble_eq_true rfl) ⟨rfl, rfl⟩ ?_
        rintro _ rfl
        refine J_st (.int (b2i (inX 14 12 14)) :: []) rfl ?_
        refine J_ifneb 63 C iX10_settle_48 rfl (fun h48 => ?_) (fun h48 => absurd (h48.symm.trans (by decide : inX 14 12 14 = true)) (by decide))
        refine J_aload_n C iX10_settle_63 rfl rfl ?_
        refine J_get (.ref (pn 9)) 17 C iX10_settle_64 gf_X10_204 rfl rfl ?_
        refine J_iload_n C iX10_settle_67 rfl rfl ?_
        refine J_aload_n C iX10_settle_68 rfl rfl ?_
        refine J_get (.ref (mo 6)) 0 C iX10_settle_69 gf_X10_37 rfl rfl ?_
        refine J_aload_n C iX10_settle_72 rfl rfl ?_
        refine J_get (.ref (pn 9)) 17 C iX10_settle_73 gf_X10_204 rfl rfl ?_
        refine J_iload_n C iX10_settle_76 rfl rfl ?_
        refine J_iald 26 C iX10_settle_77 rfl (vp_in_nI (n := k) (by omega) (by decide)) ?_
        rw [nI_clamp (n := k) (by omega)]
        rw [w1]
        refine J_iald 6 C iX10_settle_78 rfl (vp_in_nI (n := k1) (by omega) (by decide)) ?_
        rw [nI_clamp (n := k1) (by omega)]
        refine J_iast (wMd Z mo pl th sz ea tk dp lr dy ca kn tp kd fr me va wo pc ht fs la kh kf kl sh dk sk ++ wPl Z pn hs ls (nI s) hn ha hh dz wh bg en od (upd wi5 (nI k).toNatClampNeg (wo k1)) al5) 26 C iX10_settle_79 rfl (vp_in_nI (n := k) (by omega) (by decide)) rfl ?_
        rw [nI_clamp (n := k) (by omega)]
        refine J_iinc ((nI k) + 1) [(2, .int ((nI k) + 1)), (3, .int 14), (0, .ref (mo 0)), (1, .ref (pn 0))] C iX10_settle_80 rfl rfl (by decide) rfl ?_
        rw [show (nI k) + 1 = nI (k + 1) from nI_add _ _]
        refine J_goto 2 C iX10_settle_83 rfl ?_
        refine J_lvm [(2, .int (nI (k + 1))), (0, .ref (mo 0)), (1, .ref (pn 0))] rfl ?_
        exact ih (upd wi5 k (wo k1), al5) (by dsimp only; exact ⟨fun r hr => (Classical.em (r = k)).elim (fun z => by rw [z, upd_s]; exact hS _) (fun z => by rw [upd_n z]; exact hI.1 r (by omega)), fun r hr => by rw [upd_n (by omega)]; exact hI.2 r (by omega)⟩)
      · refine J_lvm [(3, .int 18), (2, .int (nI k)), (0, .ref (mo 0)), (1, .ref (pn 0))] (by rw [e17]; rfl) ?_
        refine J_iload_n C iX10_settle_17 rfl rfl ?_
        refine J_bipush 17 C iX10_settle_18 rfl ?_
        refine J_icmpne 40 C iX10_settle_20 rfl (fun h20 => ?_) (fun h20 => absurd h20 (by decide))
        refine J_iload_n C iX10_settle_40 rfl rfl ?_
        refine J_bipush 12 C iX10_settle_41 rfl ?_
        refine J_bipush 14 C iX10_settle_43 rfl ?_
        refine J_cSp (As := [.int 18, .int 12, .int 14]) (st := []) C iX10_settle_45 lm_X10_76 yc_X10_isIn ys_X10_isIn (c_X10_isIn (q := 18) (a := 12) (b := 14)) rfl (rmK_le (by omega) (by decide)) (Nat.le_of_ble_eq_true rfl) ⟨rfl, rfl⟩ ?_
        rintro _ rfl
        refine J_st (.int (b2i (inX 18 12 14)) :: []) rfl ?_
        refine J_ifneb 63 C iX10_settle_48 rfl (fun h48 => absurd (h48.symm.trans (by decide : inX 18 12 14 = false)) (by decide)) (fun h48 => ?_)
        refine J_iload_n C iX10_settle_51 rfl rfl ?_
        refine J_bipush 17 C iX10_settle_52 rfl ?_
        refine J_icmpeq 63 C iX10_settle_54 rfl (fun h54 => absurd h54 (by decide)) (fun h54 => ?_)
        refine J_iload_n C iX10_settle_57 rfl rfl ?_
        refine J_bipush 18 C iX10_settle_58 rfl ?_
        refine J_icmpne 80 C iX10_settle_60 rfl (fun h60 => absurd (by decide) h60) (fun h60 => ?_)
        refine J_aload_n C iX10_settle_63 rfl rfl ?_
        refine J_get (.ref (pn 9)) 17 C iX10_settle_64 gf_X10_204 rfl rfl ?_
        refine J_iload_n C iX10_settle_67 rfl rfl ?_
        refine J_aload_n C iX10_settle_68 rfl rfl ?_
        refine J_get (.ref (mo 6)) 0 C iX10_settle_69 gf_X10_37 rfl rfl ?_
        refine J_aload_n C iX10_settle_72 rfl rfl ?_
        refine J_get (.ref (pn 9)) 17 C iX10_settle_73 gf_X10_204 rfl rfl ?_
        refine J_iload_n C iX10_settle_76 rfl rfl ?_
        refine J_iald 26 C iX10_settle_77 rfl (vp_in_nI (n := k) (by omega) (by decide)) ?_
        rw [nI_clamp (n := k) (by omega)]
        rw [w1]
        refine J_iald 6 C iX10_settle_78 rfl (vp_in_nI (n := k1) (by omega) (by decide)) ?_
        rw [nI_clamp (n := k1) (by omega)]
        refine J_iast (wMd Z mo pl th sz ea tk dp lr dy ca kn tp kd fr me va wo pc ht fs la kh kf kl sh dk sk ++ wPl Z pn hs ls (nI s) hn ha hh dz wh bg en od (upd wi5 (nI k).toNatClampNeg (wo k1)) al5) 26 C iX10_settle_79 rfl (vp_in_nI (n := k) (by omega) (by decide)) rfl ?_
        rw [nI_clamp (n := k) (by omega)]
        refine J_iinc ((nI k) + 1) [(2, .int ((nI k) + 1)), (3, .int 18), (0, .ref (mo 0)), (1, .ref (pn 0))] C iX10_settle_80 rfl rfl (by decide) rfl ?_
        rw [show (nI k) + 1 = nI (k + 1) from nI_add _ _]
        refine J_goto 2 C iX10_settle_83 rfl ?_
        refine J_lvm [(2, .int (nI (k + 1))), (0, .ref (mo 0)), (1, .ref (pn 0))] rfl ?_
        exact ih (upd wi5 k (wo k1), al5) (by dsimp only; exact ⟨fun r hr => (Classical.em (r = k)).elim (fun z => by rw [z, upd_s]; exact hS _) (fun z => by rw [upd_n z]; exact hI.1 r (by omega)), fun r hr => by rw [upd_n (by omega)]; exact hI.2 r (by omega)⟩)
    · refine J_iload_n C iX10_settle_17 rfl rfl ?_
      refine J_bipush 17 C iX10_settle_18 rfl ?_
      refine J_icmpne 40 C iX10_settle_20 rfl (fun h20 => ?_) (fun h20 => absurd h20 n17)
      refine J_iload_n C iX10_settle_40 rfl rfl ?_
      refine J_bipush 12 C iX10_settle_41 rfl ?_
      refine J_bipush 14 C iX10_settle_43 rfl ?_
      refine J_cSp (As := [.int (od k), .int 12, .int 14]) (st := []) C iX10_settle_45 lm_X10_76 yc_X10_isIn ys_X10_isIn (c_X10_isIn (q := od k) (a := 12) (b := 14)) rfl (rmK_le (by omega) (by decide)) (Nat.le_of_ble_eq_true rfl) ⟨rfl, rfl⟩ ?_
      rintro _ rfl
      refine J_st (.int (b2i (inX (od k) 12 14)) :: []) rfl ?_
      refine J_ifneb 63 C iX10_settle_48 rfl (fun h48 => absurd (h48.symm.trans nin) (by decide)) (fun h48 => ?_)
      refine J_iload_n C iX10_settle_51 rfl rfl ?_
      refine J_bipush 17 C iX10_settle_52 rfl ?_
      refine J_icmpeq 63 C iX10_settle_54 rfl (fun h54 => absurd h54 n17) (fun h54 => ?_)
      refine J_iload_n C iX10_settle_57 rfl rfl ?_
      refine J_bipush 18 C iX10_settle_58 rfl ?_
      refine J_icmpne 80 C iX10_settle_60 rfl (fun h60 => ?_) (fun h60 => absurd h60 n18)
      refine J_iinc ((nI k) + 1) [(2, .int ((nI k) + 1)), (3, .int (od k)), (0, .ref (mo 0)), (1, .ref (pn 0))] C iX10_settle_80 rfl rfl (by decide) rfl ?_
      rw [show (nI k) + 1 = nI (k + 1) from nI_add _ _]
      refine J_goto 2 C iX10_settle_83 rfl ?_
      refine J_lvm [(2, .int (nI (k + 1))), (0, .ref (mo 0)), (1, .ref (pn 0))] rfl ?_
      exact ih (wi5, al5) (by dsimp only; exact ⟨fun r hr => (Classical.em (r = k)).elim (fun z => by rw [z, hwk]; exact hS _) (fun z => hI.1 r (by omega)), fun r hr => hI.2 r (by omega)⟩)

