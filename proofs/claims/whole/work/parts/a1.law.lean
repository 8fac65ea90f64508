set_option maxRecDepth 100000 in
set_option maxHeartbeats 4000000 in
theorem c_X10_holds {Z : GZ} {l : Launch} {mo pl : Nat → Nat} {N : Nat} {th sz ea tk dp lr dy ca ls mn : Int32} {kn : Bool} {hn va : Nat → Int64} {ha hh dz wh bg en od wi al tp kd fr me wo pc ht fs la kh kf kl sh dk sk : Nat → Int32} {y S c2 c3 : Nat} {o g j : Nat → Int32} (hN : N ≤ 12) (ok : kn = true → LkOk N pc ht fs la sh dk) (hy : y < 16) (hS : S ≤ 400) (hrow : ∀ r, r < S → RowS N (od r) (wi r) (al r) (o r) (g r) (j r)) (hle : c2 ≤ c3) (hc3 : c3 ≤ S) (hbg : bg (3 * y + 0) = nI c2) (hen : en (3 * y + 0) = nI c3) (hsg : c2 = c3 ∨ Seg o true c2 c3)  : Ct Z l yX10_holds cX10_holds 2 (some .boolean) (rmK 9) [.ref (mo 0), .int (nI y)] (wMd Z mo pl th sz ea tk dp lr dy ca kn tp kd fr me va wo pc ht fs la kh kf kl sh dk sk ++ wPl Z pl (nI N) ls mn hn ha hh dz wh bg en od wi al) (fun v w => ∃ kn2 sh2 dk2 sk2, v = some (.int (b2i (!(decide (c2 < c3) && decide (rkX (lfI N dy pc ht fs la) o g j c2 c3 = 0))))) ∧ w = (wMd Z mo pl th sz ea tk dp lr dy ca kn2 tp kd fr me va wo pc ht fs la kh kf kl sh2 dk2 sk2 ++ wPl Z pl (nI N) ls mn hn ha hh dz wh bg en od wi al) ∧ (kn2 = true → LkOk N pc ht fs la sh2 dk2)) := by
  refine Ct.ofJ (own := RX10) (nm := "holds") (lv0 := [(0, .ref (mo 0)), (1, .int (nI y))]) (by decide) rfl rfl (Nat.le_of_ble_eq_true rfl) rfl (fun X hXl C E => ?_)
  subst hXl
  refine J_aload_n C iX10_holds_0 rfl rfl ?_
  refine J_iload_n C iX10_holds_1 rfl rfl ?_
  refine J_iconst 0 C iX10_holds_2 rfl ?_
  refine J_cVb (As := [.int (nI y), .int 0]) (st := []) (rc2 := (rmK 9).cells) (rs2 := (rmK 9).slots) C iX10_holds_3 lm_X10_142 yc_X10_sum yv_X10_sum (c_X10_sum (x := 0) (b := true) (o := o) (g := g) (j := j) hN ok hy (by decide) hbg hen (by omega) (by omega) hsg (fun r h1 h2 => hrow r (by omega))) (q0 := 0) rfl rfl rfl [] [] rfl rfl (rmK_le (by omega) (by decide)) (Nat.le_of_ble_eq_true rfl) rfl rfl ?_
  rintro _ _ ⟨kns1, shs1, dks1, sks1, rfl, rfl, oks1, tys1⟩
  generalize hsv1 : (if c2 = c3 then (1 : Int32) else rkX (lfI N dy pc ht fs la) o g j c2 c3) = sv1
  refine J_st (.int sv1 :: []) rfl ?_
  refine J_ws (wMd Z mo pl th sz ea tk dp lr dy ca kns1 tp kd fr me va wo pc ht fs la kh kf kl shs1 dks1 sks1 ++ wPl Z pl (nI N) ls mn hn ha hh dz wh bg en od wi al) rfl ?_
  refine J_iconst 1 C iX10_holds_6 rfl ?_
  refine J_icmpne 14 C iX10_holds_7 rfl (fun h7 => ?_) (fun h7 => ?_)
  · refine J_iconst 0 C iX10_holds_14 rfl ?_
    exact J_zret C E iX10_holds_15 rfl ⟨kns1, shs1, dks1, sks1, by rw [hld0 hsv1 h7 hle tys1]; rfl, rfl, oks1⟩
  · refine J_iconst 1 C iX10_holds_10 rfl ?_
    refine J_goto 15 C iX10_holds_11 rfl ?_
    exact J_zret C E iX10_holds_15 rfl ⟨kns1, shs1, dks1, sks1, by rw [hld1 hsv1 h7 hle]; rfl, rfl, oks1⟩

set_option maxRecDepth 100000 in
set_option maxHeartbeats 4000000 in
theorem c_X10_isOpened {Z : GZ} {l : Launch} {mo pl : Nat → Nat} {N : Nat} {th sz ea tk dp lr dy ca ls mn : Int32} {kn : Bool} {hn va : Nat → Int64} {ha hh dz wh bg en od wi al tp kd fr me wo pc ht fs la kh kf kl sh dk sk : Nat → Int32} {i : Nat} (hN : N ≤ 12) (ok : kn = true → LkOk N pc ht fs la sh dk) (hi : i < N) (hFT : FTok N fs la)  : Ct Z l yX10_isOpened cX10_isOpened 2 (some .boolean) (rmK 1) [.ref (mo 0), .int (nI i)] (wMd Z mo pl th sz ea tk dp lr dy ca kn tp kd fr me va wo pc ht fs la kh kf kl sh dk sk ++ wPl Z pl (nI N) ls mn hn ha hh dz wh bg en od wi al) (fun v w => ∃ kn2 sh2 dk2 sk2 ht2 fs2 la2, v = some (.int (b2i (cuF ht fs la i (-1) (-1)).1)) ∧ w = (wMd Z mo pl th sz ea tk dp lr dy ca kn2 tp kd fr me va wo pc ht2 fs2 la2 kh kf kl sh2 dk2 sk2 ++ wPl Z pl (nI N) ls mn hn ha hh dz wh bg en od wi al) ∧ (cuF ht fs la i (-1) (-1)).2 = (ht2, fs2, la2) ∧ (kn2 = true → LkOk N pc ht2 fs2 la2 sh2 dk2) ∧ FTok N fs2 la2) := by
  refine Ct.ofJ (own := RX10) (nm := "isOpened") (lv0 := [(0, .ref (mo 0)), (1, .int (nI i))]) (by decide) rfl rfl (Nat.le_of_ble_eq_true rfl) rfl (fun X hXl C E => ?_)
  subst hXl
  refine J_aload_n C iX10_isOpened_0 rfl rfl ?_
  refine J_get (.ref (mo 9)) 0 C iX10_isOpened_1 gf_X10_46 rfl rfl ?_
  refine J_iload_n C iX10_isOpened_4 rfl rfl ?_
  refine J_iald 9 C iX10_isOpened_5 rfl (vp_in_nI (n := i) (by omega) (by decide)) ?_
  rw [nI_clamp (n := i) (by omega)]
  refine J_iconst (-1) C iX10_isOpened_6 rfl ?_
  refine J_icmpne 12 C iX10_isOpened_7 rfl (fun h7 => ?_) (fun h7 => ?_)
  · refine J_aload_n C iX10_isOpened_12 rfl rfl ?_
    refine J_iload_n C iX10_isOpened_13 rfl rfl ?_
    refine J_iconst (-1) C iX10_isOpened_14 rfl ?_
    refine J_iconst (-1) C iX10_isOpened_15 rfl ?_
    refine J_cVb (As := [.int (nI i), .int (-1), .int (-1)]) (st := []) (rc2 := (rmK 1).cells) (rs2 := (rmK 1).slots) C iX10_isOpened_16 lm_X10_148 yc_X10_curfew yv_X10_curfew (c_X10_curfew (by omega)) (q0 := 0) rfl rfl rfl [] [] rfl rfl (rmK_le (by omega) (by decide)) (Nat.le_of_ble_eq_true rfl) rfl rfl ?_
    rintro _ _ ⟨rfl, rfl⟩
    refine J_st ([]) rfl ?_
    refine J_ws (wMd Z mo pl th sz ea tk dp lr dy ca false tp kd fr me va wo pc ht (upd fs i (-1)) (upd la i (-1)) kh kf kl sh dk sk ++ wPl Z pl (nI N) ls mn hn ha hh dz wh bg en od wi al) rfl ?_
    refine J_iconst 1 C iX10_isOpened_19 rfl ?_
    exact J_zret C E iX10_isOpened_20 rfl ⟨false, sh, dk, sk, ht, upd fs i (-1), upd la i (-1), by rw [cuF_diff (fun q => h7 q.1)]; rfl, rfl, by rw [cuF_diff (fun q => h7 q.1)], fun q => absurd q (by decide), hFT.up (fun _ => rfl)⟩
  · refine J_iconst 0 C iX10_isOpened_10 rfl ?_
    exact J_zret C E iX10_isOpened_11 rfl ⟨kn, sh, dk, sk, ht, fs, la, by rw [cuF_same h7 (hFT i hi h7)]; rfl, rfl, by rw [cuF_same h7 (hFT i hi h7)], ok, hFT⟩

set_option maxRecDepth 100000 in
set_option maxHeartbeats 4000000 in
theorem c_X10_isCurfewSet {Z : GZ} {l : Launch} {mo pl : Nat → Nat} {N : Nat} {th sz ea tk dp lr dy ca ls mn : Int32} {kn : Bool} {hn va : Nat → Int64} {ha hh dz wh bg en od wi al tp kd fr me wo pc ht fs la kh kf kl sh dk sk : Nat → Int32} {y h S c0 c1 c2 : Nat} {o g j : Nat → Int32} (hN : N ≤ 12) (ok : kn = true → LkOk N pc ht fs la sh dk) (hy : y < 16) (hS : S ≤ 400) (hrow : ∀ r, r < S → RowS N (od r) (wi r) (al r) (o r) (g r) (j r)) (hcs : c1 ≤ S) (hcs2 : c2 ≤ S) (hwh : wh y = nI h) (hhN : h < N) (hb1 : bg (3 * y + 1) = nI c0) (he1 : en (3 * y + 1) = nI c1) (hb2 : bg (3 * y + 2) = nI c1) (he2 : en (3 * y + 2) = nI c2) (hs1 : Seg o false c0 c1) (hs2 : Seg o false c1 c2) (hFT : FTok N fs la)  : Ct Z l yX10_isCurfewSet cX10_isCurfewSet 5 (some .boolean) (rmK 9) [.ref (mo 0), .int (nI y)] (wMd Z mo pl th sz ea tk dp lr dy ca kn tp kd fr me va wo pc ht fs la kh kf kl sh dk sk ++ wPl Z pl (nI N) ls mn hn ha hh dz wh bg en od wi al) (fun v w => ∃ kn2 sh2 dk2 sk2 ht2 fs2 la2, v = some (.int (b2i ((if hlF (rkX (lfI N dy pc ht fs la) o g j c1 c2).toInt64 6 18 < hlF (rkX (lfI N dy pc ht fs la) o g j c0 c1).toInt64 6 18 then (false, ht, fs, la) else cuF ht fs la h (hlF (rkX (lfI N dy pc ht fs la) o g j c0 c1).toInt64 6 18) (hlF (rkX (lfI N dy pc ht fs la) o g j c1 c2).toInt64 6 18))).1)) ∧ w = (wMd Z mo pl th sz ea tk dp lr dy ca kn2 tp kd fr me va wo pc ht2 fs2 la2 kh kf kl sh2 dk2 sk2 ++ wPl Z pl (nI N) ls mn hn ha hh dz wh bg en od wi al) ∧ ((if hlF (rkX (lfI N dy pc ht fs la) o g j c1 c2).toInt64 6 18 < hlF (rkX (lfI N dy pc ht fs la) o g j c0 c1).toInt64 6 18 then (false, ht, fs, la) else cuF ht fs la h (hlF (rkX (lfI N dy pc ht fs la) o g j c0 c1).toInt64 6 18) (hlF (rkX (lfI N dy pc ht fs la) o g j c1 c2).toInt64 6 18))).2 = (ht2, fs2, la2) ∧ (kn2 = true → LkOk N pc ht2 fs2 la2 sh2 dk2) ∧ FTok N fs2 la2) := by
  have hl1 := hs1.lt_
  have hl2 := hs2.lt_
  refine Ct.ofJ (own := RX10) (nm := "isCurfewSet") (lv0 := [(0, .ref (mo 0)), (1, .int (nI y))]) (by decide) rfl rfl (Nat.le_of_ble_eq_true rfl) rfl (fun X hXl C E => ?_)
  subst hXl
  refine J_aload_n C iX10_isCurfewSet_0 rfl rfl ?_
  refine J_get (.ref (pl 0)) 0 C iX10_isCurfewSet_1 gf_X10_20 rfl rfl ?_
  refine J_get (.ref (pl 5)) 17 C iX10_isCurfewSet_4 gf_X10_139 rfl rfl ?_
  refine J_iload_n C iX10_isCurfewSet_7 rfl rfl ?_
  refine J_iald 22 C iX10_isCurfewSet_8 rfl (vp_in_nI (n := y) (by omega) (by decide)) ?_
  rw [nI_clamp (n := y) (by omega)]
  rw [hwh]
  refine J_istore_n [(2, .int (nI h)), (0, .ref (mo 0)), (1, .int (nI y))] C iX10_isCurfewSet_9 rfl (by decide) rfl ?_
  refine J_aload_n C iX10_isCurfewSet_10 rfl rfl ?_
  refine J_iload_n C iX10_isCurfewSet_11 rfl rfl ?_
  refine J_iconst 1 C iX10_isCurfewSet_12 rfl ?_
  refine J_cVb (As := [.int (nI y), .int 1]) (st := []) (rc2 := (rmK 9).cells) (rs2 := (rmK 9).slots) C iX10_isCurfewSet_13 lm_X10_142 yc_X10_sum yv_X10_sum (c_X10_sum (x := 1) (b := false) (o := o) (g := g) (j := j) hN ok hy (by decide) hb1 he1 (by omega) (by omega) (Or.inr hs1) (fun r h1 h2 => hrow r (by omega))) (q0 := 0) rfl rfl rfl [] [] rfl rfl (rmK_le (by omega) (by decide)) (Nat.le_of_ble_eq_true rfl) rfl rfl ?_
  rintro _ _ ⟨kns1, shs1, dks1, sks1, rfl, rfl, oks1, tys1⟩
  generalize hsv1 : (if c0 = c1 then (1 : Int32) else rkX (lfI N dy pc ht fs la) o g j c0 c1) = sv1
  refine J_st (.int sv1 :: []) rfl ?_
  refine J_ws (wMd Z mo pl th sz ea tk dp lr dy ca kns1 tp kd fr me va wo pc ht fs la kh kf kl shs1 dks1 sks1 ++ wPl Z pl (nI N) ls mn hn ha hh dz wh bg en od wi al) rfl ?_
  refine J_cSp (As := [.int sv1]) (st := []) C iX10_isCurfewSet_16 lm_X10_145 yc_X10_held ys_X10_held (c_X10_held (x := sv1)) rfl (rmK_le (by omega) (by decide)) (Nat.le_of_ble_eq_true rfl) ⟨rfl, rfl⟩ ?_
  rintro _ rfl
  refine J_st (.int (hdM sv1) :: []) rfl ?_
  refine J_istore_n [(3, .int (hdM sv1)), (2, .int (nI h)), (0, .ref (mo 0)), (1, .int (nI y))] C iX10_isCurfewSet_19 rfl (by decide) rfl ?_
  refine J_aload_n C iX10_isCurfewSet_20 rfl rfl ?_
  refine J_iload_n C iX10_isCurfewSet_21 rfl rfl ?_
  refine J_iconst 2 C iX10_isCurfewSet_22 rfl ?_
  refine J_cVb (As := [.int (nI y), .int 2]) (st := []) (rc2 := (rmK 9).cells) (rs2 := (rmK 9).slots) C iX10_isCurfewSet_23 lm_X10_142 yc_X10_sum yv_X10_sum (c_X10_sum (x := 2) (b := false) (o := o) (g := g) (j := j) hN oks1 hy (by decide) hb2 he2 (by omega) (by omega) (Or.inr hs2) (fun r h1 h2 => hrow r (by omega))) (q0 := 0) rfl rfl rfl [] [] rfl rfl (rmK_le (by omega) (by decide)) (Nat.le_of_ble_eq_true rfl) rfl rfl ?_
  rintro _ _ ⟨kns2, shs2, dks2, sks2, rfl, rfl, oks2, tys2⟩
  generalize hsv2 : (if c1 = c2 then (1 : Int32) else rkX (lfI N dy pc ht fs la) o g j c1 c2) = sv2
  refine J_st (.int sv2 :: []) rfl ?_
  refine J_ws (wMd Z mo pl th sz ea tk dp lr dy ca kns2 tp kd fr me va wo pc ht fs la kh kf kl shs2 dks2 sks2 ++ wPl Z pl (nI N) ls mn hn ha hh dz wh bg en od wi al) rfl ?_
  refine J_cSp (As := [.int sv2]) (st := []) C iX10_isCurfewSet_26 lm_X10_145 yc_X10_held ys_X10_held (c_X10_held (x := sv2)) rfl (rmK_le (by omega) (by decide)) (Nat.le_of_ble_eq_true rfl) ⟨rfl, rfl⟩ ?_
  rintro _ rfl
  refine J_st (.int (hdM sv2) :: []) rfl ?_
  refine J_istore [(4, .int (hdM sv2)), (3, .int (hdM sv1)), (2, .int (nI h)), (0, .ref (mo 0)), (1, .int (nI y))] C iX10_isCurfewSet_29 (by decide) rfl ?_
  have ev1 : hdM sv1 = hlF (rkX (lfI N dy pc ht fs la) o g j c0 c1).toInt64 6 18 := by rw [hd_hl, ← hsv1, if_neg (by have := hs1.lt_; omega)]
  have ev2 : hdM sv2 = hlF (rkX (lfI N dy pc ht fs la) o g j c1 c2).toInt64 6 18 := by rw [hd_hl, ← hsv2, if_neg (by have := hs2.lt_; omega)]
  rw [ev1, ev2]
  generalize hA : hlF (rkX (lfI N dy pc ht fs la) o g j c0 c1).toInt64 6 18 = A9
  generalize hB : hlF (rkX (lfI N dy pc ht fs la) o g j c1 c2).toInt64 6 18 = B9
  refine J_iload C iX10_isCurfewSet_31 rfl ?_
  refine J_iload_n C iX10_isCurfewSet_33 rfl rfl ?_
  refine J_icmplt 58 C iX10_isCurfewSet_34 rfl (fun h34 => ?_) (fun h34 => ?_)
  · refine J_iconst 0 C iX10_isCurfewSet_58 rfl ?_
    exact J_zret C E iX10_isCurfewSet_59 rfl ⟨kns2, shs2, dks2, sks2, ht, fs, la, by rw [if_pos h34]; rfl, rfl, by rw [if_pos h34], oks2, hFT⟩
  · refine J_aload_n C iX10_isCurfewSet_37 rfl rfl ?_
    refine J_get (.ref (mo 9)) 0 C iX10_isCurfewSet_38 gf_X10_46 rfl rfl ?_
    refine J_iload_n C iX10_isCurfewSet_41 rfl rfl ?_
    refine J_iald 9 C iX10_isCurfewSet_42 rfl (vp_in_nI (n := h) (by omega) (by decide)) ?_
    rw [nI_clamp (n := h) (by omega)]
    refine J_iload_n C iX10_isCurfewSet_43 rfl rfl ?_
    refine J_icmpne 60 C iX10_isCurfewSet_44 rfl (fun h44 => ?_) (fun h44 => ?_)
    · refine J_aload_n C iX10_isCurfewSet_60 rfl rfl ?_
      refine J_iload_n C iX10_isCurfewSet_61 rfl rfl ?_
      refine J_iload_n C iX10_isCurfewSet_62 rfl rfl ?_
      refine J_iload C iX10_isCurfewSet_63 rfl ?_
      refine J_cVb (As := [.int (nI h), .int A9, .int B9]) (st := []) (rc2 := (rmK 9).cells) (rs2 := (rmK 9).slots) C iX10_isCurfewSet_65 lm_X10_148 yc_X10_curfew yv_X10_curfew (c_X10_curfew (by omega)) (q0 := 0) rfl rfl rfl [] [] rfl rfl (rmK_le (by omega) (by decide)) (Nat.le_of_ble_eq_true rfl) rfl rfl ?_
      rintro _ _ ⟨rfl, rfl⟩
      refine J_st ([]) rfl ?_
      refine J_ws (wMd Z mo pl th sz ea tk dp lr dy ca false tp kd fr me va wo pc ht (upd fs h A9) (upd la h B9) kh kf kl shs2 dks2 sks2 ++ wPl Z pl (nI N) ls mn hn ha hh dz wh bg en od wi al) rfl ?_
      refine J_iconst 1 C iX10_isCurfewSet_68 rfl ?_
      exact J_zret C E iX10_isCurfewSet_69 rfl ⟨false, shs2, dks2, sks2, ht, upd fs h A9, upd la h B9, by rw [if_neg h34, cuF_diff (by first | exact fun q => h44 q.1 | exact fun q => h55 q.2)]; rfl, rfl, by rw [if_neg h34, cuF_diff (by first | exact fun q => h44 q.1 | exact fun q => h55 q.2)], fun q => absurd q (by decide), hFT.up (fun q => absurd q (hA ▸ hl_ne _))⟩
    · refine J_aload_n C iX10_isCurfewSet_47 rfl rfl ?_
      refine J_get (.ref (mo 10)) 0 C iX10_isCurfewSet_48 gf_X10_49 rfl rfl ?_
      refine J_iload_n C iX10_isCurfewSet_51 rfl rfl ?_
      refine J_iald 10 C iX10_isCurfewSet_52 rfl (vp_in_nI (n := h) (by omega) (by decide)) ?_
      rw [nI_clamp (n := h) (by omega)]
      refine J_iload C iX10_isCurfewSet_53 rfl ?_
      refine J_icmpne 60 C iX10_isCurfewSet_55 rfl (fun h55 => ?_) (fun h55 => ?_)
      · refine J_aload_n C iX10_isCurfewSet_60 rfl rfl ?_
        refine J_iload_n C iX10_isCurfewSet_61 rfl rfl ?_
        refine J_iload_n C iX10_isCurfewSet_62 rfl rfl ?_
        refine J_iload C iX10_isCurfewSet_63 rfl ?_
        refine J_cVb (As := [.int (nI h), .int A9, .int B9]) (st := []) (rc2 := (rmK 9).cells) (rs2 := (rmK 9).slots) C iX10_isCurfewSet_65 lm_X10_148 yc_X10_curfew yv_X10_curfew (c_X10_curfew (by omega)) (q0 := 0) rfl rfl rfl [] [] rfl rfl (rmK_le (by omega) (by decide)) (Nat.le_of_ble_eq_true rfl) rfl rfl ?_
        rintro _ _ ⟨rfl, rfl⟩
        refine J_st ([]) rfl ?_
        refine J_ws (wMd Z mo pl th sz ea tk dp lr dy ca false tp kd fr me va wo pc ht (upd fs h A9) (upd la h B9) kh kf kl shs2 dks2 sks2 ++ wPl Z pl (nI N) ls mn hn ha hh dz wh bg en od wi al) rfl ?_
        refine J_iconst 1 C iX10_isCurfewSet_68 rfl ?_
        exact J_zret C E iX10_isCurfewSet_69 rfl ⟨false, shs2, dks2, sks2, ht, upd fs h A9, upd la h B9, by rw [if_neg h34, cuF_diff (by first | exact fun q => h44 q.1 | exact fun q => h55 q.2)]; rfl, rfl, by rw [if_neg h34, cuF_diff (by first | exact fun q => h44 q.1 | exact fun q => h55 q.2)], fun q => absurd q (by decide), hFT.up (fun q => absurd q (hA ▸ hl_ne _))⟩
      · refine J_iconst 0 C iX10_isCurfewSet_58 rfl ?_
        exact J_zret C E iX10_isCurfewSet_59 rfl ⟨kns2, shs2, dks2, sks2, ht, fs, la, by rw [if_neg h34, cuF_same h44 h55]; rfl, rfl, by rw [if_neg h34, cuF_same h44 h55], oks2, hFT⟩

set_option maxRecDepth 100000 in
set_option maxHeartbeats 4000000 in
theorem c_X10_isRaised {Z : GZ} {l : Launch} {mo pl : Nat → Nat} {N : Nat} {th sz ea tk dp lr dy ca ls mn : Int32} {kn : Bool} {hn va : Nat → Int64} {ha hh dz wh bg en od wi al tp kd fr me wo pc ht fs la kh kf kl sh dk sk : Nat → Int32} {y h S c0 c1 : Nat} {o g j : Nat → Int32} (hN : N ≤ 12) (ok : kn = true → LkOk N pc ht fs la sh dk) (hy : y < 16) (hS : S ≤ 400) (hrow : ∀ r, r < S → RowS N (od r) (wi r) (al r) (o r) (g r) (j r)) (hcs : c1 ≤ S) (hwh : wh y = nI h) (hhN : h < N) (hb1 : bg (3 * y + 1) = nI c0) (he1 : en (3 * y + 1) = nI c1) (hs1 : Seg o false c0 c1) (hFT : FTok N fs la)  : Ct Z l yX10_isRaised cX10_isRaised 4 (some .boolean) (rmK 9) [.ref (mo 0), .int (nI y)] (wMd Z mo pl th sz ea tk dp lr dy ca kn tp kd fr me va wo pc ht fs la kh kf kl sh dk sk ++ wPl Z pl (nI N) ls mn hn ha hh dz wh bg en od wi al) (fun v w => ∃ kn2 sh2 dk2 sk2 ht2 fs2 la2, v = some (.int (b2i (hgF ht fs la h (hlF ((ht h).toInt64 + (rkX (lfI N dy pc ht fs la) o g j c0 c1).toInt64) 0 30)).1)) ∧ w = (wMd Z mo pl th sz ea tk dp lr dy ca kn2 tp kd fr me va wo pc ht2 fs2 la2 kh kf kl sh2 dk2 sk2 ++ wPl Z pl (nI N) ls mn hn ha hh dz wh bg en od wi al) ∧ (hgF ht fs la h (hlF ((ht h).toInt64 + (rkX (lfI N dy pc ht fs la) o g j c0 c1).toInt64) 0 30)).2 = (ht2, fs2, la2) ∧ (kn2 = true → LkOk N pc ht2 fs2 la2 sh2 dk2) ∧ FTok N fs2 la2) := by
  have hl1 := hs1.lt_
  refine Ct.ofJ (own := RX10) (nm := "isRaised") (lv0 := [(0, .ref (mo 0)), (1, .int (nI y))]) (by decide) rfl rfl (Nat.le_of_ble_eq_true rfl) rfl (fun X hXl C E => ?_)
  subst hXl
  refine J_aload_n C iX10_isRaised_0 rfl rfl ?_
  refine J_get (.ref (pl 0)) 0 C iX10_isRaised_1 gf_X10_20 rfl rfl ?_
  refine J_get (.ref (pl 5)) 17 C iX10_isRaised_4 gf_X10_139 rfl rfl ?_
  refine J_iload_n C iX10_isRaised_7 rfl rfl ?_
  refine J_iald 22 C iX10_isRaised_8 rfl (vp_in_nI (n := y) (by omega) (by decide)) ?_
  rw [nI_clamp (n := y) (by omega)]
  rw [hwh]
  refine J_istore_n [(2, .int (nI h)), (0, .ref (mo 0)), (1, .int (nI y))] C iX10_isRaised_9 rfl (by decide) rfl ?_
  refine J_lconst 0 C iX10_isRaised_10 rfl ?_
  refine J_ldc2 30 C iX10_isRaised_11 (tsg_in (i := 1541) (by decide +kernel) rfl) ?_
  refine J_aload_n C iX10_isRaised_14 rfl rfl ?_
  refine J_get (.ref (mo 8)) 0 C iX10_isRaised_15 gf_X10_43 rfl rfl ?_
  refine J_iload_n C iX10_isRaised_18 rfl rfl ?_
  refine J_iald 8 C iX10_isRaised_19 rfl (vp_in_nI (n := h) (by omega) (by decide)) ?_
  rw [nI_clamp (n := h) (by omega)]
  refine J_i2l C iX10_isRaised_20 ?_
  refine J_aload_n C iX10_isRaised_21 rfl rfl ?_
  refine J_iload_n C iX10_isRaised_22 rfl rfl ?_
  refine J_iconst 1 C iX10_isRaised_23 rfl ?_
  refine J_cVb (As := [.int (nI y), .int 1]) (st := .long ((ht h).toInt64) :: .long 30 :: .long 0 :: []) (rc2 := (rmK 9).cells) (rs2 := (rmK 9).slots) C iX10_isRaised_24 lm_X10_142 yc_X10_sum yv_X10_sum (c_X10_sum (x := 1) (b := false) (o := o) (g := g) (j := j) hN ok hy (by decide) hb1 he1 (by omega) (by omega) (Or.inr hs1) (fun r h1 h2 => hrow r (by omega))) (q0 := 0) rfl rfl rfl [] [] rfl rfl (rmK_le (by omega) (by decide)) (Nat.le_of_ble_eq_true rfl) rfl rfl ?_
  rintro _ _ ⟨kns1, shs1, dks1, sks1, rfl, rfl, oks1, tys1⟩
  generalize hsv1 : (if c0 = c1 then (1 : Int32) else rkX (lfI N dy pc ht fs la) o g j c0 c1) = sv1
  refine J_st (.int sv1 :: .long ((ht h).toInt64) :: .long 30 :: .long 0 :: []) rfl ?_
  refine J_ws (wMd Z mo pl th sz ea tk dp lr dy ca kns1 tp kd fr me va wo pc ht fs la kh kf kl shs1 dks1 sks1 ++ wPl Z pl (nI N) ls mn hn ha hh dz wh bg en od wi al) rfl ?_
  refine J_i2l C iX10_isRaised_27 ?_
  refine J_ladd C iX10_isRaised_28 ?_
  refine J_lmin C iX10_isRaised_29 (tsg_in (i := 1791) (by decide +kernel) rfl) ma_lmin_1 ma_i ma_lmin_2 (by decide) (Nat.le_of_ble_eq_true rfl) ?_
  refine J_lmax C iX10_isRaised_32 (tsg_in (i := 1792) (by decide +kernel) rfl) ma_lmax_1 ma_i ma_lmax_2 (by decide) (Nat.le_of_ble_eq_true rfl) ?_
  refine J_l2i C iX10_isRaised_35 ?_
  have e9 : rkX (lfI N dy pc ht fs la) o g j c0 c1 = sv1 := by rw [← hsv1, if_neg (show ¬ c0 = c1 by omega)]
  have ev1 : (if (if ((ht h).toInt64) + sv1.toInt64 < 30 then ((ht h).toInt64) + sv1.toInt64 else 30) < 0 then 0 else (if ((ht h).toInt64) + sv1.toInt64 < 30 then ((ht h).toInt64) + sv1.toInt64 else 30)).toInt32 = hlF ((ht h).toInt64 + (rkX (lfI N dy pc ht fs la) o g j c0 c1).toInt64) 0 30 := by rw [e9]; rfl
  rw [ev1]
  generalize hA : hlF ((ht h).toInt64 + (rkX (lfI N dy pc ht fs la) o g j c0 c1).toInt64) 0 30 = A9
  refine J_istore_n [(3, .int A9), (2, .int (nI h)), (0, .ref (mo 0)), (1, .int (nI y))] C iX10_isRaised_36 rfl (by decide) rfl ?_
  refine J_iload_n C iX10_isRaised_37 rfl rfl ?_
  refine J_aload_n C iX10_isRaised_38 rfl rfl ?_
  refine J_get (.ref (mo 8)) 0 C iX10_isRaised_39 gf_X10_43 rfl rfl ?_
  refine J_iload_n C iX10_isRaised_42 rfl rfl ?_
  refine J_iald 8 C iX10_isRaised_43 rfl (vp_in_nI (n := h) (by omega) (by decide)) ?_
  rw [nI_clamp (n := h) (by omega)]
  refine J_icmpne 49 C iX10_isRaised_44 rfl (fun h44 => ?_) (fun h44 => ?_)
  · refine J_aload_n C iX10_isRaised_49 rfl rfl ?_
    refine J_iload_n C iX10_isRaised_50 rfl rfl ?_
    refine J_iload_n C iX10_isRaised_51 rfl rfl ?_
    refine J_cVb (As := [.int (nI h), .int A9]) (st := []) (rc2 := (rmK 9).cells) (rs2 := (rmK 9).slots) C iX10_isRaised_52 lm_X10_159 yc_X10_raiseTo yv_X10_raiseTo (c_X10_raiseTo (by omega)) (q0 := 0) rfl rfl rfl [] [] rfl rfl (rmK_le (by omega) (by decide)) (Nat.le_of_ble_eq_true rfl) rfl rfl ?_
    rintro _ _ ⟨rfl, rfl⟩
    refine J_st ([]) rfl ?_
    refine J_ws (wMd Z mo pl th sz ea tk dp lr dy ca false tp kd fr me va wo pc (upd ht h A9) fs la kh kf kl shs1 dks1 sks1 ++ wPl Z pl (nI N) ls mn hn ha hh dz wh bg en od wi al) rfl ?_
    refine J_iconst 1 C iX10_isRaised_55 rfl ?_
    exact J_zret C E iX10_isRaised_56 rfl ⟨false, shs1, dks1, sks1, upd ht h A9, fs, la, by rw [hgF_diff (fun e => h44 e.symm)]; rfl, rfl, by rw [hgF_diff (fun e => h44 e.symm)], fun q => absurd q (by decide), hFT⟩
  · refine J_iconst 0 C iX10_isRaised_47 rfl ?_
    exact J_zret C E iX10_isRaised_48 rfl ⟨kns1, shs1, dks1, sks1, ht, fs, la, by rw [hgF_same h44.symm]; rfl, rfl, by rw [hgF_same h44.symm], oks1, hFT⟩

