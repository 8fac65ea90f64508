set_option maxRecDepth 100000 in
set_option maxHeartbeats 4000000 in
theorem c_X10_begins {Z : GZ} {l : Launch} {mo pl pn : Nat → Nat} {th sz ea lr dy ca hs ls : Int32} {kn : Bool} {hn va : Nat → Int64} {ha hh dz wh bg en tp kd fr wo pc ht fs la kh kf kl sh dk sk : Nat → Int32} {i s d : Nat} {me od wi al : Nat → Int32} {y x : Nat} (hu : y < 16) (hw : x < 3)  : Ct Z l yX10_begins cX10_begins 4 none (rmK 0) [.ref (mo 0), .ref (pn 0), .int (nI y), .int (nI x)] (wMd Z mo pl th sz ea (nI i) (nI d) lr dy ca kn tp kd fr me va wo pc ht fs la kh kf kl sh dk sk ++ wPl Z pn hs ls (nI s) hn ha hh dz wh bg en od wi al) (fun v w => v = none ∧ w = (wMd Z mo pl th sz ea (nI i) (nI d) lr dy ca kn tp kd fr me va wo pc ht fs la kh kf kl sh dk sk ++ wPl Z pn hs ls (nI s) hn ha hh dz wh (upd bg (3 * y + x) (nI s)) en od wi al)) := by
  refine Ct.ofJ (own := RX10) (nm := "begins") (lv0 := [(0, .ref (mo 0)), (1, .ref (pn 0)), (2, .int (nI y)), (3, .int (nI x))]) (by decide) rfl rfl (Nat.le_of_ble_eq_true rfl) rfl (fun X hXl C E => ?_)
  subst hXl
  refine J_aload_n C iX10_begins_0 rfl rfl ?_
  refine J_get (.ref (pn 6)) 17 C iX10_begins_1 gf_X10_192 rfl rfl ?_
  refine J_iconst 3 C iX10_begins_4 rfl ?_
  refine J_iload_n C iX10_begins_5 rfl rfl ?_
  refine J_imul C iX10_begins_6 ?_
  refine J_iload_n C iX10_begins_7 rfl rfl ?_
  refine J_iadd C iX10_begins_8 ?_
  refine J_aload_n C iX10_begins_9 rfl rfl ?_
  refine J_get (.int (nI s)) 17 C iX10_begins_10 gf_X10_272 rfl rfl ?_
  refine J_iast (wMd Z mo pl th sz ea (nI i) (nI d) lr dy ca kn tp kd fr me va wo pc ht fs la kh kf kl sh dk sk ++ wPl Z pn hs ls (nI s) hn ha hh dz wh (upd bg ((3 * (nI y)) + (nI x)).toNatClampNeg (nI s)) en od wi al) 23 C iX10_begins_13 rfl (j3_in hu hw) rfl ?_
  exact J_vret C E iX10_begins_14 ⟨rfl, by rw [j3_nI hu hw]⟩

set_option maxRecDepth 100000 in
set_option maxHeartbeats 4000000 in
theorem c_X10_ends {Z : GZ} {l : Launch} {mo pl pn : Nat → Nat} {th sz ea lr dy ca hs ls : Int32} {kn : Bool} {hn va : Nat → Int64} {ha hh dz wh bg en tp kd fr wo pc ht fs la kh kf kl sh dk sk : Nat → Int32} {i s d : Nat} {me od wi al : Nat → Int32} {y x : Nat} (hu : y < 16) (hw : x < 3)  : Ct Z l yX10_ends cX10_ends 4 none (rmK 0) [.ref (mo 0), .ref (pn 0), .int (nI y), .int (nI x)] (wMd Z mo pl th sz ea (nI i) (nI d) lr dy ca kn tp kd fr me va wo pc ht fs la kh kf kl sh dk sk ++ wPl Z pn hs ls (nI s) hn ha hh dz wh bg en od wi al) (fun v w => v = none ∧ w = (wMd Z mo pl th sz ea (nI i) (nI d) lr dy ca kn tp kd fr me va wo pc ht fs la kh kf kl sh dk sk ++ wPl Z pn hs ls (nI s) hn ha hh dz wh bg (upd en (3 * y + x) (nI s)) od wi al)) := by
  refine Ct.ofJ (own := RX10) (nm := "ends") (lv0 := [(0, .ref (mo 0)), (1, .ref (pn 0)), (2, .int (nI y)), (3, .int (nI x))]) (by decide) rfl rfl (Nat.le_of_ble_eq_true rfl) rfl (fun X hXl C E => ?_)
  subst hXl
  refine J_aload_n C iX10_ends_0 rfl rfl ?_
  refine J_get (.ref (pn 7)) 17 C iX10_ends_1 gf_X10_195 rfl rfl ?_
  refine J_iconst 3 C iX10_ends_4 rfl ?_
  refine J_iload_n C iX10_ends_5 rfl rfl ?_
  refine J_imul C iX10_ends_6 ?_
  refine J_iload_n C iX10_ends_7 rfl rfl ?_
  refine J_iadd C iX10_ends_8 ?_
  refine J_aload_n C iX10_ends_9 rfl rfl ?_
  refine J_get (.int (nI s)) 17 C iX10_ends_10 gf_X10_272 rfl rfl ?_
  refine J_iast (wMd Z mo pl th sz ea (nI i) (nI d) lr dy ca kn tp kd fr me va wo pc ht fs la kh kf kl sh dk sk ++ wPl Z pn hs ls (nI s) hn ha hh dz wh bg (upd en ((3 * (nI y)) + (nI x)).toNatClampNeg (nI s)) od wi al) 24 C iX10_ends_13 rfl (j3_in hu hw) rfl ?_
  exact J_vret C E iX10_ends_14 ⟨rfl, by rw [j3_nI hu hw]⟩

set_option maxRecDepth 100000 in
set_option maxHeartbeats 4000000 in
theorem c_X10_isPart_0 {Z : GZ} {l : Launch} {mo pl pn : Nat → Nat} {th sz ea lr dy ca hs ls : Int32} {kn : Bool} {hn va : Nat → Int64} {ha hh dz wh bg en tp kd fr wo pc ht fs la kh kf kl sh dk sk : Nat → Int32} {Lt m : Nat} {tq : Nat → Nat} {sq : Nat → Int32} {vq nm : Nat → Int64} {i s : Nat} {me od wi al : Nat → Int32} {e a : Int32} {o g j : Nat → Int32} {y : Nat} (hLt : Lt ≤ 400) (hkd : ∀ i, i ≤ Lt → kd i = km (tq i)) (htq : ∀ i, tq i < 43) (hend : ∀ i, i ≤ Lt → tq i ≠ 41 → tq i ≠ 42 → i < Lt) (hva : ∀ i, i ≤ Lt → tq i = 39 ∨ tq i = 40 → va i = vq i) (hi : i ≤ Lt) (hs_ : s ≤ i) (hme : ∀ k, i ≤ k → k ≤ Lt → me k = 0) (hy : y < 16)  : Ct Z l yX10_isPart cX10_isPart 4 (some .boolean) (rmK 43) [.ref (mo 0), .ref (pn 0), .int (nI y), .int 0] (wMd Z mo pl th sz ea (nI i) (nI 0) lr dy ca kn tp kd fr me va wo pc ht fs la kh kf kl sh dk sk ++ wPl Z pn hs ls (nI s) hn ha hh dz wh bg en od wi al) (fun v w => (∃ i2 s2 me2 od2 wi2 al2 e2 a2 o2 g2 j2, v = some (.int (b2i true)) ∧ w = (wMd Z mo pl th sz ea (nI i2) (nI 0) lr dy ca kn tp kd fr me2 va wo pc ht fs la kh kf kl sh dk sk ++ wPl Z pn hs ls (nI s2) hn ha hh dz wh (upd bg (3 * y + 0) (nI s)) (upd en (3 * y + 0) (nI s2)) od2 wi2 al2) ∧ testC tq sq (sglC tq sq vq nm m 8 0) (i, false, e, a, s, o, g, j) = (i2, false, e2, a2, s2, o2, g2, j2) ∧ Gd Lt tq sq vq nm m true i s me od wi al e a o g j i2 s2 me2 od2 wi2 al2 e2 a2 o2 g2 j2) ∨ (∃ i2 dp2 mn2 me2 od2 wi2 al2, v = some (.int (b2i false)) ∧ w = (wMd Z mo pl th sz ea (nI i2) dp2 lr dy ca kn tp kd fr me2 va wo pc ht fs la kh kf kl sh dk sk ++ wPl Z pn hs ls mn2 hn ha hh dz wh (upd bg (3 * y + 0) (nI s)) en od2 wi2 al2) ∧ i2 ≤ Lt ∧ Bk (testC tq sq (sglC tq sq vq nm m 8 0) (i, false, e, a, s, o, g, j)) i2 (sq i2))) := by
  refine Ct.ofJ (own := RX10) (nm := "isPart") (lv0 := [(0, .ref (mo 0)), (1, .ref (pn 0)), (2, .int (nI y)), (3, .int 0)]) (by decide) rfl rfl (Nat.le_of_ble_eq_true rfl) rfl (fun X hXl C E => ?_)
  subst hXl
  refine J_aload_n C iX10_isPart_0 rfl rfl ?_
  refine J_aload_n C iX10_isPart_1 rfl rfl ?_
  refine J_iload_n C iX10_isPart_2 rfl rfl ?_
  refine J_iload_n C iX10_isPart_3 rfl rfl ?_
  refine J_cV (As := [.ref (pn 0), .int (nI y), .int 0]) (st := []) (rc2 := (rmK 43).cells) (rs2 := (rmK 43).slots) C iX10_isPart_4 lm_X10_318 yc_X10_begins yv_X10_begins (c_X10_begins (s := s) (y := y) (x := 0) (by omega) (by omega)) (q0 := 0) rfl rfl rfl rfl (rmK_le (by omega) (by decide)) (Nat.le_of_ble_eq_true rfl) rfl rfl ?_
  rintro _ _ ⟨rfl, rfl⟩
  refine J_st ([]) rfl ?_
  refine J_iload_n C iX10_isPart_7 rfl rfl ?_
  refine J_ifne 22 C iX10_isPart_8 rfl (fun h8 => absurd (by decide) h8) (fun h8 => ?_)
  refine J_aload_n C iX10_isPart_11 rfl rfl ?_
  refine J_aload_n C iX10_isPart_12 rfl rfl ?_
  refine J_cV (As := [.ref (pn 0)]) (st := []) (rc2 := (rmK 43).cells) (rs2 := (rmK 43).slots) C iX10_isPart_13 lm_X10_293 yc_X10_isTest yv_X10_isTest (c_mtest0 (m := m) (sq := sq) (nm := nm) hLt hkd htq hend hva (e := e) (a := a) (o := o) (g := g) (j := j) (by omega) (by omega) (fun k h1 h2 => hme k (by omega) h2)) (q0 := 0) rfl rfl rfl rfl (rmK_le (by omega) (by decide)) (Nat.le_of_ble_eq_true rfl) rfl rfl ?_
  rintro _ _ (⟨i79, s79, me79, od79, wi79, al79, e79, a79, o79, g79, j79, rfl, rfl, R79, G79⟩ | ⟨i79, dp79, mn79, me79, od79, wi79, al79, rfl, rfl, hL79, B79⟩)
  · refine J_st (.int (b2i true) :: []) rfl ?_
    have hil79 := G79.il
    have hiL79 := G79.iL
    have hsl79 := G79.sl
    have hss79 := G79.ss
    have hme79 : ∀ k, i79 ≤ k → k ≤ Lt → me79 k = 0 := fun k h1 h2 => (G79.fm k (Or.inr h1)).trans (hme k (by omega) h2)
    refine J_ifneb 32 C iX10_isPart_16 rfl (fun h16 => ?_) (fun h16 => absurd (h16.symm.trans rfl) (by decide))
    refine J_aload_n C iX10_isPart_32 rfl rfl ?_
    refine J_aload_n C iX10_isPart_33 rfl rfl ?_
    refine J_iload_n C iX10_isPart_34 rfl rfl ?_
    refine J_iload_n C iX10_isPart_35 rfl rfl ?_
    refine J_cV (As := [.ref (pn 0), .int (nI y), .int 0]) (st := []) (rc2 := (rmK 43).cells) (rs2 := (rmK 43).slots) C iX10_isPart_36 lm_X10_320 yc_X10_ends yv_X10_ends (c_X10_ends (s := s79) (y := y) (x := 0) (by omega) (by omega)) (q0 := 0) rfl rfl rfl rfl (rmK_le (by omega) (by decide)) (Nat.le_of_ble_eq_true rfl) rfl rfl ?_
    rintro _ _ ⟨rfl, rfl⟩
    refine J_st ([]) rfl ?_
    refine J_iconst 1 C iX10_isPart_39 rfl ?_
    exact J_zret C E iX10_isPart_40 rfl (Or.inl ⟨i79, s79, me79, od79, wi79, al79, e79, a79, o79, g79, j79, rfl, rfl, by exact R79, G79⟩)
  · refine J_st (.int (b2i false) :: []) rfl ?_
    refine J_ifneb 32 C iX10_isPart_16 rfl (fun h16 => absurd (h16.symm.trans rfl) (by decide)) (fun h16 => ?_)
    refine J_goto 30 C iX10_isPart_19 rfl ?_
    refine J_iconst 0 C iX10_isPart_30 rfl ?_
    exact J_zret C E iX10_isPart_31 rfl (Or.inr ⟨i79, dp79, mn79, me79, od79, wi79, al79, rfl, rfl, by omega, by exact B79⟩)

set_option maxRecDepth 100000 in
set_option maxHeartbeats 4000000 in
theorem c_X10_isPart_1 {Z : GZ} {l : Launch} {mo pl pn : Nat → Nat} {th sz ea lr dy ca hs ls : Int32} {kn : Bool} {hn va : Nat → Int64} {ha hh dz wh bg en tp kd fr wo pc ht fs la kh kf kl sh dk sk : Nat → Int32} {Lt m : Nat} {tq : Nat → Nat} {sq : Nat → Int32} {vq nm : Nat → Int64} {i s : Nat} {me od wi al : Nat → Int32} {e a : Int32} {o g j : Nat → Int32} {y : Nat} (hLt : Lt ≤ 400) (hkd : ∀ i, i ≤ Lt → kd i = km (tq i)) (htq : ∀ i, tq i < 43) (hend : ∀ i, i ≤ Lt → tq i ≠ 41 → tq i ≠ 42 → i < Lt) (hva : ∀ i, i ≤ Lt → tq i = 39 ∨ tq i = 40 → va i = vq i) (hi : i ≤ Lt) (hs_ : s ≤ i) (hme : ∀ k, i ≤ k → k ≤ Lt → me k = 0) (hy : y < 16)  : Ct Z l yX10_isPart cX10_isPart 4 (some .boolean) (rmK 43) [.ref (mo 0), .ref (pn 0), .int (nI y), .int 1] (wMd Z mo pl th sz ea (nI i) (nI 0) lr dy ca kn tp kd fr me va wo pc ht fs la kh kf kl sh dk sk ++ wPl Z pn hs ls (nI s) hn ha hh dz wh bg en od wi al) (fun v w => (∃ i2 s2 me2 od2 wi2 al2 e2 a2 o2 g2 j2, v = some (.int (b2i true)) ∧ w = (wMd Z mo pl th sz ea (nI i2) (nI 0) lr dy ca kn tp kd fr me2 va wo pc ht fs la kh kf kl sh dk sk ++ wPl Z pn hs ls (nI s2) hn ha hh dz wh (upd bg (3 * y + 1) (nI s)) (upd en (3 * y + 1) (nI s2)) od2 wi2 al2) ∧ sumC tq sq (valC tq sq vq nm m 8 0) (i, false, e, a, s, o, g, j) = (i2, false, e2, a2, s2, o2, g2, j2) ∧ Gd Lt tq sq vq nm m false i s me od wi al e a o g j i2 s2 me2 od2 wi2 al2 e2 a2 o2 g2 j2) ∨ (∃ i2 dp2 mn2 me2 od2 wi2 al2, v = some (.int (b2i false)) ∧ w = (wMd Z mo pl th sz ea (nI i2) dp2 lr dy ca kn tp kd fr me2 va wo pc ht fs la kh kf kl sh dk sk ++ wPl Z pn hs ls mn2 hn ha hh dz wh (upd bg (3 * y + 1) (nI s)) en od2 wi2 al2) ∧ i2 ≤ Lt ∧ Bk (sumC tq sq (valC tq sq vq nm m 8 0) (i, false, e, a, s, o, g, j)) i2 (sq i2))) := by
  refine Ct.ofJ (own := RX10) (nm := "isPart") (lv0 := [(0, .ref (mo 0)), (1, .ref (pn 0)), (2, .int (nI y)), (3, .int 1)]) (by decide) rfl rfl (Nat.le_of_ble_eq_true rfl) rfl (fun X hXl C E => ?_)
  subst hXl
  refine J_aload_n C iX10_isPart_0 rfl rfl ?_
  refine J_aload_n C iX10_isPart_1 rfl rfl ?_
  refine J_iload_n C iX10_isPart_2 rfl rfl ?_
  refine J_iload_n C iX10_isPart_3 rfl rfl ?_
  refine J_cV (As := [.ref (pn 0), .int (nI y), .int 1]) (st := []) (rc2 := (rmK 43).cells) (rs2 := (rmK 43).slots) C iX10_isPart_4 lm_X10_318 yc_X10_begins yv_X10_begins (c_X10_begins (s := s) (y := y) (x := 1) (by omega) (by omega)) (q0 := 0) rfl rfl rfl rfl (rmK_le (by omega) (by decide)) (Nat.le_of_ble_eq_true rfl) rfl rfl ?_
  rintro _ _ ⟨rfl, rfl⟩
  refine J_st ([]) rfl ?_
  refine J_iload_n C iX10_isPart_7 rfl rfl ?_
  refine J_ifne 22 C iX10_isPart_8 rfl (fun h8 => ?_) (fun h8 => absurd h8 (by decide))
  refine J_aload_n C iX10_isPart_22 rfl rfl ?_
  refine J_aload_n C iX10_isPart_23 rfl rfl ?_
  refine J_cV (As := [.ref (pn 0)]) (st := []) (rc2 := (rmK 43).cells) (rs2 := (rmK 43).slots) C iX10_isPart_24 lm_X10_306 yc_X10_isSum yv_X10_isSum (c_msum0 (m := m) (sq := sq) (nm := nm) hLt hkd htq hend hva (e := e) (a := a) (o := o) (g := g) (j := j) (by omega) (by omega) (fun k h1 h2 => hme k (by omega) h2)) (q0 := 0) rfl rfl rfl rfl (rmK_le (by omega) (by decide)) (Nat.le_of_ble_eq_true rfl) rfl rfl ?_
  rintro _ _ (⟨i80, s80, me80, od80, wi80, al80, e80, a80, o80, g80, j80, rfl, rfl, R80, G80⟩ | ⟨i80, dp80, mn80, me80, od80, wi80, al80, rfl, rfl, hL80, B80⟩)
  · refine J_st (.int (b2i true) :: []) rfl ?_
    have hil80 := G80.il
    have hiL80 := G80.iL
    have hsl80 := G80.sl
    have hss80 := G80.ss
    have hme80 : ∀ k, i80 ≤ k → k ≤ Lt → me80 k = 0 := fun k h1 h2 => (G80.fm k (Or.inr h1)).trans (hme k (by omega) h2)
    refine J_ifneb 32 C iX10_isPart_27 rfl (fun h27 => ?_) (fun h27 => absurd (h27.symm.trans rfl) (by decide))
    refine J_aload_n C iX10_isPart_32 rfl rfl ?_
    refine J_aload_n C iX10_isPart_33 rfl rfl ?_
    refine J_iload_n C iX10_isPart_34 rfl rfl ?_
    refine J_iload_n C iX10_isPart_35 rfl rfl ?_
    refine J_cV (As := [.ref (pn 0), .int (nI y), .int 1]) (st := []) (rc2 := (rmK 43).cells) (rs2 := (rmK 43).slots) C iX10_isPart_36 lm_X10_320 yc_X10_ends yv_X10_ends (c_X10_ends (s := s80) (y := y) (x := 1) (by omega) (by omega)) (q0 := 0) rfl rfl rfl rfl (rmK_le (by omega) (by decide)) (Nat.le_of_ble_eq_true rfl) rfl rfl ?_
    rintro _ _ ⟨rfl, rfl⟩
    refine J_st ([]) rfl ?_
    refine J_iconst 1 C iX10_isPart_39 rfl ?_
    exact J_zret C E iX10_isPart_40 rfl (Or.inl ⟨i80, s80, me80, od80, wi80, al80, e80, a80, o80, g80, j80, rfl, rfl, by exact R80, G80⟩)
  · refine J_st (.int (b2i false) :: []) rfl ?_
    refine J_ifneb 32 C iX10_isPart_27 rfl (fun h27 => absurd (h27.symm.trans rfl) (by decide)) (fun h27 => ?_)
    refine J_iconst 0 C iX10_isPart_30 rfl ?_
    exact J_zret C E iX10_isPart_31 rfl (Or.inr ⟨i80, dp80, mn80, me80, od80, wi80, al80, rfl, rfl, by omega, by exact B80⟩)

set_option maxRecDepth 100000 in
set_option maxHeartbeats 4000000 in
theorem c_X10_isPart_2 {Z : GZ} {l : Launch} {mo pl pn : Nat → Nat} {th sz ea lr dy ca hs ls : Int32} {kn : Bool} {hn va : Nat → Int64} {ha hh dz wh bg en tp kd fr wo pc ht fs la kh kf kl sh dk sk : Nat → Int32} {Lt m : Nat} {tq : Nat → Nat} {sq : Nat → Int32} {vq nm : Nat → Int64} {i s : Nat} {me od wi al : Nat → Int32} {e a : Int32} {o g j : Nat → Int32} {y : Nat} (hLt : Lt ≤ 400) (hkd : ∀ i, i ≤ Lt → kd i = km (tq i)) (htq : ∀ i, tq i < 43) (hend : ∀ i, i ≤ Lt → tq i ≠ 41 → tq i ≠ 42 → i < Lt) (hva : ∀ i, i ≤ Lt → tq i = 39 ∨ tq i = 40 → va i = vq i) (hi : i ≤ Lt) (hs_ : s ≤ i) (hme : ∀ k, i ≤ k → k ≤ Lt → me k = 0) (hy : y < 16)  : Ct Z l yX10_isPart cX10_isPart 4 (some .boolean) (rmK 43) [.ref (mo 0), .ref (pn 0), .int (nI y), .int 2] (wMd Z mo pl th sz ea (nI i) (nI 0) lr dy ca kn tp kd fr me va wo pc ht fs la kh kf kl sh dk sk ++ wPl Z pn hs ls (nI s) hn ha hh dz wh bg en od wi al) (fun v w => (∃ i2 s2 me2 od2 wi2 al2 e2 a2 o2 g2 j2, v = some (.int (b2i true)) ∧ w = (wMd Z mo pl th sz ea (nI i2) (nI 0) lr dy ca kn tp kd fr me2 va wo pc ht fs la kh kf kl sh dk sk ++ wPl Z pn hs ls (nI s2) hn ha hh dz wh (upd bg (3 * y + 2) (nI s)) (upd en (3 * y + 2) (nI s2)) od2 wi2 al2) ∧ sumC tq sq (valC tq sq vq nm m 8 0) (i, false, e, a, s, o, g, j) = (i2, false, e2, a2, s2, o2, g2, j2) ∧ Gd Lt tq sq vq nm m false i s me od wi al e a o g j i2 s2 me2 od2 wi2 al2 e2 a2 o2 g2 j2) ∨ (∃ i2 dp2 mn2 me2 od2 wi2 al2, v = some (.int (b2i false)) ∧ w = (wMd Z mo pl th sz ea (nI i2) dp2 lr dy ca kn tp kd fr me2 va wo pc ht fs la kh kf kl sh dk sk ++ wPl Z pn hs ls mn2 hn ha hh dz wh (upd bg (3 * y + 2) (nI s)) en od2 wi2 al2) ∧ i2 ≤ Lt ∧ Bk (sumC tq sq (valC tq sq vq nm m 8 0) (i, false, e, a, s, o, g, j)) i2 (sq i2))) := by
  refine Ct.ofJ (own := RX10) (nm := "isPart") (lv0 := [(0, .ref (mo 0)), (1, .ref (pn 0)), (2, .int (nI y)), (3, .int 2)]) (by decide) rfl rfl (Nat.le_of_ble_eq_true rfl) rfl (fun X hXl C E => ?_)
  subst hXl
  refine J_aload_n C iX10_isPart_0 rfl rfl ?_
  refine J_aload_n C iX10_isPart_1 rfl rfl ?_
  refine J_iload_n C iX10_isPart_2 rfl rfl ?_
  refine J_iload_n C iX10_isPart_3 rfl rfl ?_
  refine J_cV (As := [.ref (pn 0), .int (nI y), .int 2]) (st := []) (rc2 := (rmK 43).cells) (rs2 := (rmK 43).slots) C iX10_isPart_4 lm_X10_318 yc_X10_begins yv_X10_begins (c_X10_begins (s := s) (y := y) (x := 2) (by omega) (by omega)) (q0 := 0) rfl rfl rfl rfl (rmK_le (by omega) (by decide)) (Nat.le_of_ble_eq_true rfl) rfl rfl ?_
  rintro _ _ ⟨rfl, rfl⟩
  refine J_st ([]) rfl ?_
  refine J_iload_n C iX10_isPart_7 rfl rfl ?_
  refine J_ifne 22 C iX10_isPart_8 rfl (fun h8 => ?_) (fun h8 => absurd h8 (by decide))
  refine J_aload_n C iX10_isPart_22 rfl rfl ?_
  refine J_aload_n C iX10_isPart_23 rfl rfl ?_
  refine J_cV (As := [.ref (pn 0)]) (st := []) (rc2 := (rmK 43).cells) (rs2 := (rmK 43).slots) C iX10_isPart_24 lm_X10_306 yc_X10_isSum yv_X10_isSum (c_msum0 (m := m) (sq := sq) (nm := nm) hLt hkd htq hend hva (e := e) (a := a) (o := o) (g := g) (j := j) (by omega) (by omega) (fun k h1 h2 => hme k (by omega) h2)) (q0 := 0) rfl rfl rfl rfl (rmK_le (by omega) (by decide)) (Nat.le_of_ble_eq_true rfl) rfl rfl ?_
  rintro _ _ (⟨i81, s81, me81, od81, wi81, al81, e81, a81, o81, g81, j81, rfl, rfl, R81, G81⟩ | ⟨i81, dp81, mn81, me81, od81, wi81, al81, rfl, rfl, hL81, B81⟩)
  · refine J_st (.int (b2i true) :: []) rfl ?_
    have hil81 := G81.il
    have hiL81 := G81.iL
    have hsl81 := G81.sl
    have hss81 := G81.ss
    have hme81 : ∀ k, i81 ≤ k → k ≤ Lt → me81 k = 0 := fun k h1 h2 => (G81.fm k (Or.inr h1)).trans (hme k (by omega) h2)
    refine J_ifneb 32 C iX10_isPart_27 rfl (fun h27 => ?_) (fun h27 => absurd (h27.symm.trans rfl) (by decide))
    refine J_aload_n C iX10_isPart_32 rfl rfl ?_
    refine J_aload_n C iX10_isPart_33 rfl rfl ?_
    refine J_iload_n C iX10_isPart_34 rfl rfl ?_
    refine J_iload_n C iX10_isPart_35 rfl rfl ?_
    refine J_cV (As := [.ref (pn 0), .int (nI y), .int 2]) (st := []) (rc2 := (rmK 43).cells) (rs2 := (rmK 43).slots) C iX10_isPart_36 lm_X10_320 yc_X10_ends yv_X10_ends (c_X10_ends (s := s81) (y := y) (x := 2) (by omega) (by omega)) (q0 := 0) rfl rfl rfl rfl (rmK_le (by omega) (by decide)) (Nat.le_of_ble_eq_true rfl) rfl rfl ?_
    rintro _ _ ⟨rfl, rfl⟩
    refine J_st ([]) rfl ?_
    refine J_iconst 1 C iX10_isPart_39 rfl ?_
    exact J_zret C E iX10_isPart_40 rfl (Or.inl ⟨i81, s81, me81, od81, wi81, al81, e81, a81, o81, g81, j81, rfl, rfl, by exact R81, G81⟩)
  · refine J_st (.int (b2i false) :: []) rfl ?_
    refine J_ifneb 32 C iX10_isPart_27 rfl (fun h27 => absurd (h27.symm.trans rfl) (by decide)) (fun h27 => ?_)
    refine J_iconst 0 C iX10_isPart_30 rfl ?_
    exact J_zret C E iX10_isPart_31 rfl (Or.inr ⟨i81, dp81, mn81, me81, od81, wi81, al81, rfl, rfl, by omega, by exact B81⟩)

set_option maxRecDepth 100000 in
set_option maxHeartbeats 4000000 in
theorem c_X10_isLaw {Z : GZ} {l : Launch} {mo pl pn : Nat → Nat} {th sz ea dy ca hs ls : Int32} {kn : Bool} {hn va : Nat → Int64} {ha hh dz wh bg en tp kd fr wo pc ht fs la kh kf kl sh dk sk : Nat → Int32} {Lt m : Nat} {tq : Nat → Nat} {sq : Nat → Int32} {vq nm : Nat → Int64} {i s : Nat} {me od wi al : Nat → Int32} {e a : Int32} {o g j : Nat → Int32} {u uc y : Nat} (hu : u ≤ 400) (huc : uc = min u 16) (hy : y = min u 15) (hLt : Lt ≤ 400) (hkd : ∀ i, i ≤ Lt → kd i = km (tq i)) (htq : ∀ i, tq i < 43) (hend : ∀ i, i ≤ Lt → tq i ≠ 41 → tq i ≠ 42 → i < Lt) (hva : ∀ i, i ≤ Lt → tq i = 39 ∨ tq i = 40 → va i = vq i) (hi : i ≤ Lt) (hs_ : s ≤ i) (hme : ∀ k, i ≤ k → k ≤ Lt → me k = 0) (htk : tq i = 3)  : Ct Z l yX10_isLaw cX10_isLaw 4 (some .boolean) (rmK 44) [.ref (mo 0), .ref (pn 0)] (wMd Z mo pl th sz ea (nI i) (nI 0) (nI u) dy ca kn tp kd fr me va wo pc ht fs la kh kf kl sh dk sk ++ wPl Z pn hs ls (nI s) hn ha hh dz wh bg en od wi al) (fun v w => (∃ i2 s2 me2 od2 wi2 al2 e2 a2 o2 g2 j2 dz2 bg2 en2 z0 z1 z2 z3 z4 z5, v = some (.int (b2i true)) ∧ w = (wMd Z mo pl th sz ea (nI i2) (nI 0) (nI (u + 1)) dy ca kn tp kd fr me2 va wo pc ht fs la kh kf kl sh dk sk ++ wPl Z pn hs ls (nI s2) hn ha hh dz2 wh bg2 en2 od2 wi2 al2) ∧ lawC tq sq vq nm m uc (i, false, e, a, s, o, g, j) = ((i2, false, e2, a2, s2, o2, g2, j2), z0, z1, z2, z3, z4, z5) ∧ LawG Lt tq sq vq nm m uc y i s me od wi al dz bg en e a o g j i2 s2 me2 od2 wi2 al2 dz2 bg2 en2 e2 a2 o2 g2 j2 z0 z1 z2 z3 z4 z5) ∨ (∃ i2 dp2 mn2 me2 od2 wi2 al2 dz2 bg2 en2, v = some (.int (b2i false)) ∧ w = (wMd Z mo pl th sz ea (nI i2) dp2 (nI (u + 1)) dy ca kn tp kd fr me2 va wo pc ht fs la kh kf kl sh dk sk ++ wPl Z pn hs ls mn2 hn ha hh dz2 wh bg2 en2 od2 wi2 al2) ∧ i2 ≤ Lt ∧ Bk (lawC tq sq vq nm m uc (i, false, e, a, s, o, g, j)).1 i2 (sq i2))) := by
  refine Ct.ofJ (own := RX10) (nm := "isLaw") (lv0 := [(0, .ref (mo 0)), (1, .ref (pn 0))]) (by decide) rfl rfl (Nat.le_of_ble_eq_true rfl) rfl (fun X hXl C E => ?_)
  subst hXl
  refine J_bipush 15 C iX10_isLaw_0 rfl ?_
  refine J_aload_n C iX10_isLaw_2 rfl rfl ?_
  refine J_get (.int (nI u)) 0 C iX10_isLaw_3 gf_X10_322 rfl rfl ?_
  refine J_imin C iX10_isLaw_6 (tsg_in (i := 1452) (by decide +kernel) rfl) ma_imin_1 ma_i ma_imin_2 (by decide) (Nat.le_of_ble_eq_true rfl) ?_
  rw [show (if nI u < 15 then nI u else 15) = nI y from min15 (by omega) hy]
  have hl0 : i < Lt := hend i hi (by rw [htk]; decide) (by rw [htk]; decide)
  refine J_istore_n [(2, .int (nI y)), (0, .ref (mo 0)), (1, .ref (pn 0))] C iX10_isLaw_9 rfl (by decide) rfl ?_
  refine J_aload_n C iX10_isLaw_10 rfl rfl ?_
  refine J_dup C iX10_isLaw_11 rfl ?_
  refine J_get (.int (nI u)) 0 C iX10_isLaw_12 gf_X10_322 rfl rfl ?_
  refine J_iconst 1 C iX10_isLaw_15 rfl ?_
  refine J_iadd C iX10_isLaw_16 ?_
  rw [show (nI u) + 1 = nI (u + 1) from nI_add _ _]
  refine J_put (wMd Z mo pl th sz ea (nI i) (nI 0) (nI (u + 1)) dy ca kn tp kd fr me va wo pc ht fs la kh kf kl sh dk sk ++ wPl Z pn hs ls (nI s) hn ha hh dz wh bg en od wi al) 0 C iX10_isLaw_17 pf_X10_322 rfl rfl rfl (Nat.le_of_ble_eq_true rfl) rfl ?_
  refine J_aload_n C iX10_isLaw_20 rfl rfl ?_
  refine J_get (.ref (mo 4)) 0 C iX10_isLaw_21 gf_X10_30 rfl rfl ?_
  refine J_aload_n C iX10_isLaw_24 rfl rfl ?_
  refine J_get (.int (nI i)) 0 C iX10_isLaw_25 gf_X10_263 rfl rfl ?_
  refine J_iconst 4 C iX10_isLaw_28 rfl ?_
  refine J_iast (wMd Z mo pl th sz ea (nI i) (nI 0) (nI (u + 1)) dy ca kn tp kd fr (upd me (nI i).toNatClampNeg 4) va wo pc ht fs la kh kf kl sh dk sk ++ wPl Z pn hs ls (nI s) hn ha hh dz wh bg en od wi al) 4 C iX10_isLaw_29 rfl (vp_in_nI (n := i) (by omega) (by decide)) rfl ?_
  rw [nI_clamp (n := i) (by omega)]
  refine J_aload_n C iX10_isLaw_30 rfl rfl ?_
  refine J_dup C iX10_isLaw_31 rfl ?_
  refine J_get (.int (nI i)) 0 C iX10_isLaw_32 gf_X10_263 rfl rfl ?_
  refine J_iconst 1 C iX10_isLaw_35 rfl ?_
  refine J_iadd C iX10_isLaw_36 ?_
  rw [show (nI i) + 1 = nI (i + 1) from nI_add _ _]
  refine J_put (wMd Z mo pl th sz ea (nI (i + 1)) (nI 0) (nI (u + 1)) dy ca kn tp kd fr (upd me i 4) va wo pc ht fs la kh kf kl sh dk sk ++ wPl Z pn hs ls (nI s) hn ha hh dz wh bg en od wi al) 0 C iX10_isLaw_37 pf_X10_263 rfl rfl rfl (Nat.le_of_ble_eq_true rfl) rfl ?_
  refine J_aload_n C iX10_isLaw_40 rfl rfl ?_
  refine J_get (.ref (mo 2)) 0 C iX10_isLaw_41 gf_X10_24 rfl rfl ?_
  refine J_aload_n C iX10_isLaw_44 rfl rfl ?_
  refine J_get (.int (nI (i + 1))) 0 C iX10_isLaw_45 gf_X10_263 rfl rfl ?_
  refine J_iald 2 C iX10_isLaw_48 rfl (vp_in_nI (n := (i + 1)) (by omega) (by decide)) ?_
  rw [nI_clamp (n := (i + 1)) (by omega)]
  refine J_istore_n [(3, .int (kd (i + 1))), (2, .int (nI y)), (0, .ref (mo 0)), (1, .ref (pn 0))] C iX10_isLaw_49 rfl (by decide) rfl ?_
  refine J_iload_n C iX10_isLaw_50 rfl rfl ?_
  refine J_iconst 4 C iX10_isLaw_51 rfl ?_
  refine J_icmpeq 69 C iX10_isLaw_52 rfl (fun h52 => ?_) (fun h52 => ?_)
  · have t52 : tq (i + 1) = 4 := (kdT (k := 4) (hkd _ (by omega)) (htq _) (by decide) rfl).mp h52
    have hl1 : i + 1 < Lt := hend (i + 1) (by omega) (by rw [t52]; decide) (by rw [t52]; decide)
    refine J_lvm [(3, .int 4), (2, .int (nI y)), (0, .ref (mo 0)), (1, .ref (pn 0))] (by rw [h52]; rfl) ?_
    refine J_aload_n C iX10_isLaw_69 rfl rfl ?_
    refine J_get (.ref (pn 4)) 17 C iX10_isLaw_70 gf_X10_167 rfl rfl ?_
    refine J_iload_n C iX10_isLaw_73 rfl rfl ?_
    refine J_iload_n C iX10_isLaw_74 rfl rfl ?_
    refine J_iast (wMd Z mo pl th sz ea (nI (i + 1)) (nI 0) (nI (u + 1)) dy ca kn tp kd fr (upd me i 4) va wo pc ht fs la kh kf kl sh dk sk ++ wPl Z pn hs ls (nI s) hn ha hh (upd dz (nI y).toNatClampNeg 4) wh bg en od wi al) 21 C iX10_isLaw_75 rfl (vp_in_nI (n := y) (by omega) (by decide)) rfl ?_
    rw [nI_clamp (n := y) (by omega)]
    refine J_aload_n C iX10_isLaw_76 rfl rfl ?_
    refine J_dup C iX10_isLaw_77 rfl ?_
    refine J_get (.int (nI (i + 1))) 0 C iX10_isLaw_78 gf_X10_263 rfl rfl ?_
    refine J_iconst 1 C iX10_isLaw_81 rfl ?_
    refine J_iadd C iX10_isLaw_82 ?_
    rw [show (nI (i + 1)) + 1 = nI ((i + 1) + 1) from nI_add _ _]
    refine J_put (wMd Z mo pl th sz ea (nI ((i + 1) + 1)) (nI 0) (nI (u + 1)) dy ca kn tp kd fr (upd me i 4) va wo pc ht fs la kh kf kl sh dk sk ++ wPl Z pn hs ls (nI s) hn ha hh (upd dz y 4) wh bg en od wi al) 0 C iX10_isLaw_83 pf_X10_263 rfl rfl rfl (Nat.le_of_ble_eq_true rfl) rfl ?_
    refine J_aload_n C iX10_isLaw_86 rfl rfl ?_
    refine J_bipush 30 C iX10_isLaw_87 rfl ?_
    refine J_iconst 5 C iX10_isLaw_89 rfl ?_
    refine J_cV (As := [.int 30, .int 5]) (st := []) (rc2 := (rmK 44).cells) (rs2 := (rmK 44).slots) C iX10_isLaw_90 lm_X10_275 yc_X10_eatAs yv_X10_eatAs (c_X10_eatAs (k := 39) rfl (by decide) (by decide) (by decide) hLt hkd htq hend hva (by omega)) (q0 := 0) rfl rfl rfl rfl (rmK_le (by omega) (by decide)) (Nat.le_of_ble_eq_true rfl) rfl rfl ?_
    rintro _ _ (⟨rfl, rfl, t_82, l_82⟩ | ⟨rfl, rfl, n_82⟩)
    · refine J_st (.int (b2i true) :: []) rfl ?_
      have hme1 : ∀ k, i + 1 + 1 + 1 ≤ k → k ≤ Lt → (upd (upd me i 4) (i + 1 + 1) 5) k = 0 := fun k h1 h2 => by rw [upd_n (by omega), upd_n (by omega)]; exact hme k (by omega) h2
      have S0 : Gs Lt tq sq vq nm m (i + 1 + 1 + 1) s (upd (upd me i 4) (i + 1 + 1) 5) od wi al (tlK sq vq nm m (i + 1 + 1) (lwT sq i uc (e, a))).1 (tlK sq vq nm m (i + 1 + 1) (lwT sq i uc (e, a))).2 o g j (((i + 1) + 1) + 1) s (upd (upd me i 4) ((i + 1) + 1) 5) od wi al ((tlK sq vq nm m (i + 1 + 1) (lwT sq i uc (e, a))).1) ((tlK sq vq nm m (i + 1 + 1) (lwT sq i uc (e, a))).2) o g j := Gs.nil (by omega)
      refine J_ifneb 98 C iX10_isLaw_93 rfl (fun h93 => ?_) (fun h93 => absurd (h93.symm.trans rfl) (by decide))
      refine J_iload_n C iX10_isLaw_98 rfl rfl ?_
      refine J_iconst 4 C iX10_isLaw_99 rfl ?_
      refine J_icmpne 142 C iX10_isLaw_100 rfl (fun h100 => absurd (by decide) h100) (fun h100 => ?_)
      refine J_aload_n C iX10_isLaw_103 rfl rfl ?_
      refine J_iconst 5 C iX10_isLaw_104 rfl ?_
      refine J_cV (As := [.int 5]) (st := []) (rc2 := (rmK 44).cells) (rs2 := (rmK 44).slots) C iX10_isLaw_105 lm_X10_266 yc_X10_eat yv_X10_eat (c_X10_eat (k := 5) rfl (by decide) (by decide) (by decide) hLt hkd htq hend hva (by omega)) (q0 := 0) rfl rfl rfl rfl (rmK_le (by omega) (by decide)) (Nat.le_of_ble_eq_true rfl) rfl rfl ?_
      rintro _ _ (⟨rfl, rfl, t_83, l_83⟩ | ⟨rfl, rfl, n_83⟩)
      · refine J_st (.int (b2i true) :: []) rfl ?_
        have S1 : Gs Lt tq sq vq nm m (i + 1 + 1 + 1) s (upd (upd me i 4) (i + 1 + 1) 5) od wi al (tlK sq vq nm m (i + 1 + 1) (lwT sq i uc (e, a))).1 (tlK sq vq nm m (i + 1 + 1) (lwT sq i uc (e, a))).2 o g j ((((i + 1) + 1) + 1) + 1) s (upd (upd me i 4) ((i + 1) + 1) 5) od wi al ((tlK sq vq nm m (i + 1 + 1) (lwT sq i uc (e, a))).1) ((tlK sq vq nm m (i + 1 + 1) (lwT sq i uc (e, a))).2) o g j := S0.tok l_83 (hme1 _ (by omega) (by omega))
        refine J_ifeqb 140 C iX10_isLaw_108 rfl (fun h108 => absurd (h108.symm.trans rfl) (by decide)) (fun h108 => ?_)
        refine J_aload_n C iX10_isLaw_111 rfl rfl ?_
        refine J_aload_n C iX10_isLaw_112 rfl rfl ?_
        refine J_iload_n C iX10_isLaw_113 rfl rfl ?_
        refine J_iconst 1 C iX10_isLaw_114 rfl ?_
        refine J_cV (As := [.ref (pn 0), .int (nI y), .int 1]) (st := []) (rc2 := (rmK 44).cells) (rs2 := (rmK 44).slots) C iX10_isLaw_115 lm_X10_325 yc_X10_isPart yv_X10_isPart (c_X10_isPart_1 (m := m) (sq := sq) (nm := nm) hLt hkd htq hend hva (e := (tlK sq vq nm m (i + 1 + 1) (lwT sq i uc (e, a))).1) (a := (tlK sq vq nm m (i + 1 + 1) (lwT sq i uc (e, a))).2) (o := o) (g := g) (j := j) (by omega) (by omega) (fun k h1 h2 => hme1 k (by omega) h2) (by omega)) (q0 := 0) rfl rfl rfl rfl (rmK_le (by omega) (by decide)) (Nat.le_of_ble_eq_true rfl) rfl rfl ?_
        rintro _ _ (⟨i84, s84, me84, od84, wi84, al84, e84, a84, o84, g84, j84, rfl, rfl, R84, G84⟩ | ⟨i84, dp84, mn84, me84, od84, wi84, al84, rfl, rfl, hL84, B84⟩)
        · refine J_st (.int (b2i true) :: []) rfl ?_
          have hil84 := G84.il
          have hiL84 := G84.iL
          have hsl84 := G84.sl
          have hss84 := G84.ss
          have hme84 : ∀ k, i84 ≤ k → k ≤ Lt → me84 k = 0 := fun k h1 h2 => (G84.fm k (Or.inr h1)).trans (hme1 k (by omega) h2)
          have S2 : Gs Lt tq sq vq nm m (i + 1 + 1 + 1) s (upd (upd me i 4) (i + 1 + 1) 5) od wi al (tlK sq vq nm m (i + 1 + 1) (lwT sq i uc (e, a))).1 (tlK sq vq nm m (i + 1 + 1) (lwT sq i uc (e, a))).2 o g j i84 s84 me84 od84 wi84 al84 e84 a84 o84 g84 j84 := S1.app G84
          refine J_ifeqb 140 C iX10_isLaw_118 rfl (fun h118 => absurd (h118.symm.trans rfl) (by decide)) (fun h118 => ?_)
          refine J_aload_n C iX10_isLaw_121 rfl rfl ?_
          refine J_bipush 6 C iX10_isLaw_122 rfl ?_
          refine J_cV (As := [.int 6]) (st := []) (rc2 := (rmK 44).cells) (rs2 := (rmK 44).slots) C iX10_isLaw_124 lm_X10_266 yc_X10_eat yv_X10_eat (c_X10_eat (k := 6) rfl (by decide) (by decide) (by decide) hLt hkd htq hend hva (by omega)) (q0 := 0) rfl rfl rfl rfl (rmK_le (by omega) (by decide)) (Nat.le_of_ble_eq_true rfl) rfl rfl ?_
          rintro _ _ (⟨rfl, rfl, t_85, l_85⟩ | ⟨rfl, rfl, n_85⟩)
          · refine J_st (.int (b2i true) :: []) rfl ?_
            have S3 : Gs Lt tq sq vq nm m (i + 1 + 1 + 1) s (upd (upd me i 4) (i + 1 + 1) 5) od wi al (tlK sq vq nm m (i + 1 + 1) (lwT sq i uc (e, a))).1 (tlK sq vq nm m (i + 1 + 1) (lwT sq i uc (e, a))).2 o g j (i84 + 1) s84 me84 od84 wi84 al84 e84 a84 o84 g84 j84 := S2.tok l_85 (hme1 _ (by omega) (by omega))
            refine J_ifeqb 140 C iX10_isLaw_127 rfl (fun h127 => absurd (h127.symm.trans rfl) (by decide)) (fun h127 => ?_)
            refine J_aload_n C iX10_isLaw_130 rfl rfl ?_
            refine J_aload_n C iX10_isLaw_131 rfl rfl ?_
            refine J_iload_n C iX10_isLaw_132 rfl rfl ?_
            refine J_iconst 2 C iX10_isLaw_133 rfl ?_
            refine J_cV (As := [.ref (pn 0), .int (nI y), .int 2]) (st := []) (rc2 := (rmK 44).cells) (rs2 := (rmK 44).slots) C iX10_isLaw_134 lm_X10_325 yc_X10_isPart yv_X10_isPart (c_X10_isPart_2 (m := m) (sq := sq) (nm := nm) hLt hkd htq hend hva (e := e84) (a := a84) (o := o84) (g := g84) (j := j84) (by omega) (by omega) (fun k h1 h2 => hme84 k (by omega) h2) (by omega)) (q0 := 0) rfl rfl rfl rfl (rmK_le (by omega) (by decide)) (Nat.le_of_ble_eq_true rfl) rfl rfl ?_
            rintro _ _ (⟨i86, s86, me86, od86, wi86, al86, e86, a86, o86, g86, j86, rfl, rfl, R86, G86⟩ | ⟨i86, dp86, mn86, me86, od86, wi86, al86, rfl, rfl, hL86, B86⟩)
            · refine J_st (.int (b2i true) :: []) rfl ?_
              have hil86 := G86.il
              have hiL86 := G86.iL
              have hsl86 := G86.sl
              have hss86 := G86.ss
              have hme86 : ∀ k, i86 ≤ k → k ≤ Lt → me86 k = 0 := fun k h1 h2 => (G86.fm k (Or.inr h1)).trans (hme84 k (by omega) h2)
              have S4 : Gs Lt tq sq vq nm m (i + 1 + 1 + 1) s (upd (upd me i 4) (i + 1 + 1) 5) od wi al (tlK sq vq nm m (i + 1 + 1) (lwT sq i uc (e, a))).1 (tlK sq vq nm m (i + 1 + 1) (lwT sq i uc (e, a))).2 o g j i86 s86 me86 od86 wi86 al86 e86 a86 o86 g86 j86 := S3.app G86
              refine J_ifneb 142 C iX10_isLaw_137 rfl (fun h137 => ?_) (fun h137 => absurd (h137.symm.trans rfl) (by decide))
              refine J_iload_n C iX10_isLaw_142 rfl rfl ?_
              refine J_bipush 8 C iX10_isLaw_143 rfl ?_
              refine J_icmpne 169 C iX10_isLaw_145 rfl (fun h145 => ?_) (fun h145 => absurd h145 (by decide))
              refine J_aload_n C iX10_isLaw_169 rfl rfl ?_
              refine J_aload_n C iX10_isLaw_170 rfl rfl ?_
              refine J_iload_n C iX10_isLaw_171 rfl rfl ?_
              refine J_iconst 0 C iX10_isLaw_172 rfl ?_
              refine J_cV (As := [.ref (pn 0), .int (nI y), .int 0]) (st := []) (rc2 := (rmK 44).cells) (rs2 := (rmK 44).slots) C iX10_isLaw_173 lm_X10_318 yc_X10_begins yv_X10_begins (c_X10_begins (s := s86) (y := y) (x := 0) (by omega) (by omega)) (q0 := 0) rfl rfl rfl rfl (rmK_le (by omega) (by decide)) (Nat.le_of_ble_eq_true rfl) rfl rfl ?_
              rintro _ _ ⟨rfl, rfl⟩
              refine J_st ([]) rfl ?_
              refine J_aload_n C iX10_isLaw_176 rfl rfl ?_
              refine J_aload_n C iX10_isLaw_177 rfl rfl ?_
              refine J_iload_n C iX10_isLaw_178 rfl rfl ?_
              refine J_iconst 0 C iX10_isLaw_179 rfl ?_
              refine J_cV (As := [.ref (pn 0), .int (nI y), .int 0]) (st := []) (rc2 := (rmK 44).cells) (rs2 := (rmK 44).slots) C iX10_isLaw_180 lm_X10_320 yc_X10_ends yv_X10_ends (c_X10_ends (s := s86) (y := y) (x := 0) (by omega) (by omega)) (q0 := 0) rfl rfl rfl rfl (rmK_le (by omega) (by decide)) (Nat.le_of_ble_eq_true rfl) rfl rfl ?_
              rintro _ _ ⟨rfl, rfl⟩
              refine J_st ([]) rfl ?_
              refine J_aload_n C iX10_isLaw_183 rfl rfl ?_
              refine J_bipush 10 C iX10_isLaw_184 rfl ?_
              refine J_cV (As := [.int 10]) (st := []) (rc2 := (rmK 44).cells) (rs2 := (rmK 44).slots) C iX10_isLaw_186 lm_X10_266 yc_X10_eat yv_X10_eat (c_X10_eat (k := 10) rfl (by decide) (by decide) (by decide) hLt hkd htq hend hva (by omega)) (q0 := 0) rfl rfl rfl rfl (rmK_le (by omega) (by decide)) (Nat.le_of_ble_eq_true rfl) rfl rfl ?_
              rintro _ _ (⟨rfl, rfl, t_87, l_87⟩ | ⟨rfl, rfl, n_87⟩)
              · refine J_st (.int (b2i true) :: []) rfl ?_
                have S5 : Gs Lt tq sq vq nm m (i + 1 + 1 + 1) s (upd (upd me i 4) (i + 1 + 1) 5) od wi al (tlK sq vq nm m (i + 1 + 1) (lwT sq i uc (e, a))).1 (tlK sq vq nm m (i + 1 + 1) (lwT sq i uc (e, a))).2 o g j (i86 + 1) s86 me86 od86 wi86 al86 e86 a86 o86 g86 j86 := S4.tok l_87 (hme1 _ (by omega) (by omega))
                refine J_ifeqb 202 C iX10_isLaw_189 rfl (fun h189 => absurd (h189.symm.trans rfl) (by decide)) (fun h189 => ?_)
                refine J_aload_n C iX10_isLaw_192 rfl rfl ?_
                refine J_aload_n C iX10_isLaw_193 rfl rfl ?_
                refine J_iload_n C iX10_isLaw_194 rfl rfl ?_
                refine J_iconst 0 C iX10_isLaw_195 rfl ?_
                refine J_cV (As := [.ref (pn 0), .int (nI y), .int 0]) (st := []) (rc2 := (rmK 44).cells) (rs2 := (rmK 44).slots) C iX10_isLaw_196 lm_X10_325 yc_X10_isPart yv_X10_isPart (c_X10_isPart_0 (m := m) (sq := sq) (nm := nm) hLt hkd htq hend hva (e := e86) (a := a86) (o := o86) (g := g86) (j := j86) (by omega) (by omega) (fun k h1 h2 => hme86 k (by omega) h2) (by omega)) (q0 := 0) rfl rfl rfl rfl (rmK_le (by omega) (by decide)) (Nat.le_of_ble_eq_true rfl) rfl rfl ?_
                rintro _ _ (⟨i88, s88, me88, od88, wi88, al88, e88, a88, o88, g88, j88, rfl, rfl, R88, G88⟩ | ⟨i88, dp88, mn88, me88, od88, wi88, al88, rfl, rfl, hL88, B88⟩)
                · refine J_st (.int (b2i true) :: []) rfl ?_
                  have hil88 := G88.il
                  have hiL88 := G88.iL
                  have hsl88 := G88.sl
                  have hss88 := G88.ss
                  have hme88 : ∀ k, i88 ≤ k → k ≤ Lt → me88 k = 0 := fun k h1 h2 => (G88.fm k (Or.inr h1)).trans (hme86 k (by omega) h2)
                  have S6 : Gs Lt tq sq vq nm m (i + 1 + 1 + 1) s (upd (upd me i 4) (i + 1 + 1) 5) od wi al (tlK sq vq nm m (i + 1 + 1) (lwT sq i uc (e, a))).1 (tlK sq vq nm m (i + 1 + 1) (lwT sq i uc (e, a))).2 o g j i88 s88 me88 od88 wi88 al88 e88 a88 o88 g88 j88 := S5.app G88
                  refine J_ifeqb 206 C iX10_isLaw_199 rfl (fun h199 => absurd (h199.symm.trans rfl) (by decide)) (fun h199 => ?_)
                  refine J_iconst 1 C iX10_isLaw_202 rfl ?_
                  refine J_goto 207 C iX10_isLaw_203 rfl ?_
                  exact J_zret C E iX10_isLaw_207 rfl (Or.inl ⟨i88, s88, me88, od88, wi88, al88, e88, a88, o88, g88, j88, upd dz y 4, upd (upd (upd (upd bg (3 * y + 1) (nI s)) (3 * y + 2) (nI s84)) (3 * y + 0) (nI s86)) (3 * y + 0) (nI s86), upd (upd (upd (upd en (3 * y + 1) (nI s84)) (3 * y + 2) (nI s86)) (3 * y + 0) (nI s86)) (3 * y + 0) (nI s88), 0, hnF nm (vq (i + 1 + 1)) m, nI s, nI s84, nI s86, nI s88, rfl, rfl, by rw [lawC, lawT_ok htk, ordC, if_pos (now_eq t52), takeC_ok t52, hse_ok t_82, knw_ok t_82, takeC_ok t_83, R84, takeC_ok t_85, R86, lawE_w, lawW, if_pos (now_eq t_87), takeC_ok t_87, R88]; rfl, t_82, rfl, S6, ⟨s, s84, s86, s88, by omega, by omega, by omega, by omega, rfl, rfl, rfl, rfl, (upd_e (by omega)), (upd_e (by omega)), Or.inr G88.sg, Or.inl ⟨rfl, (upd_e (by omega)), ((upd_n (by omega)).trans ((upd_n (by omega)).trans ((upd_n (by omega)).trans (upd_e (by omega))))), ((upd_n (by omega)).trans ((upd_n (by omega)).trans ((upd_n (by omega)).trans (upd_e (by omega))))), ((upd_n (by omega)).trans ((upd_n (by omega)).trans (upd_e (by omega)))), ((upd_n (by omega)).trans ((upd_n (by omega)).trans (upd_e (by omega)))), (G84.sg.cong (fun r a b => (G88.fs r (by omega)).2.2.2.1.trans ((G86.fs r (by omega)).2.2.2.1))), (G86.sg.cong (fun r a b => (G88.fs r (by omega)).2.2.2.1))⟩⟩, fun k hk => upd_n hk, fun k hk => ⟨((upd_n (by omega)).trans ((upd_n (by omega)).trans ((upd_n (by omega)).trans (upd_n (by omega))))), ((upd_n (by omega)).trans ((upd_n (by omega)).trans ((upd_n (by omega)).trans (upd_n (by omega)))))⟩⟩)
                · refine J_st (.int (b2i false) :: []) rfl ?_
                  refine J_ifeqb 206 C iX10_isLaw_199 rfl (fun h199 => ?_) (fun h199 => absurd (h199.symm.trans rfl) (by decide))
                  refine J_iconst 0 C iX10_isLaw_206 rfl ?_
                  exact J_zret C E iX10_isLaw_207 rfl (Or.inr ⟨i88, dp88, mn88, me88, od88, wi88, al88, upd dz y 4, upd (upd (upd (upd bg (3 * y + 1) (nI s)) (3 * y + 2) (nI s84)) (3 * y + 0) (nI s86)) (3 * y + 0) (nI s86), upd (upd (upd en (3 * y + 1) (nI s84)) (3 * y + 2) (nI s86)) (3 * y + 0) (nI s86), rfl, rfl, by omega, by rw [law1, lawT_ok htk, ordC, if_pos (now_eq t52), takeC_ok t52, knw_ok t_82, takeC_ok t_83, R84, takeC_ok t_85, R86]; dsimp only; rw [lawW, if_pos (now_eq t_87)]; rw [takeC_ok t_87]; exact B88⟩)
              · refine J_st (.int (b2i false) :: []) rfl ?_
                refine J_ifeqb 202 C iX10_isLaw_189 rfl (fun h189 => ?_) (fun h189 => absurd (h189.symm.trans rfl) (by decide))
                refine J_iconst 1 C iX10_isLaw_202 rfl ?_
                refine J_goto 207 C iX10_isLaw_203 rfl ?_
                exact J_zret C E iX10_isLaw_207 rfl (Or.inl ⟨i86, s86, me86, od86, wi86, al86, e86, a86, o86, g86, j86, upd dz y 4, upd (upd (upd bg (3 * y + 1) (nI s)) (3 * y + 2) (nI s84)) (3 * y + 0) (nI s86), upd (upd (upd en (3 * y + 1) (nI s84)) (3 * y + 2) (nI s86)) (3 * y + 0) (nI s86), 0, hnF nm (vq (i + 1 + 1)) m, nI s, nI s84, nI s86, nI s86, rfl, rfl, by rw [lawC, lawT_ok htk, ordC, if_pos (now_eq t52), takeC_ok t52, hse_ok t_82, knw_ok t_82, takeC_ok t_83, R84, takeC_ok t_85, R86, lawE_w, lawW, if_neg (now_nn n_87)]; rfl, t_82, rfl, S4, ⟨s, s84, s86, s86, by omega, by omega, by omega, by omega, rfl, rfl, rfl, rfl, (upd_e (by omega)), (upd_e (by omega)), Or.inl rfl, Or.inl ⟨rfl, (upd_e (by omega)), ((upd_n (by omega)).trans ((upd_n (by omega)).trans (upd_e (by omega)))), ((upd_n (by omega)).trans ((upd_n (by omega)).trans (upd_e (by omega)))), ((upd_n (by omega)).trans (upd_e (by omega))), ((upd_n (by omega)).trans (upd_e (by omega))), (G84.sg.cong (fun r a b => (G86.fs r (by omega)).2.2.2.1)), G86.sg⟩⟩, fun k hk => upd_n hk, fun k hk => ⟨((upd_n (by omega)).trans ((upd_n (by omega)).trans (upd_n (by omega)))), ((upd_n (by omega)).trans ((upd_n (by omega)).trans (upd_n (by omega))))⟩⟩)
            · refine J_st (.int (b2i false) :: []) rfl ?_
              refine J_ifneb 142 C iX10_isLaw_137 rfl (fun h137 => absurd (h137.symm.trans rfl) (by decide)) (fun h137 => ?_)
              refine J_iconst 0 C iX10_isLaw_140 rfl ?_
              exact J_zret C E iX10_isLaw_141 rfl (Or.inr ⟨i86, dp86, mn86, me86, od86, wi86, al86, upd dz y 4, upd (upd bg (3 * y + 1) (nI s)) (3 * y + 2) (nI s84), upd en (3 * y + 1) (nI s84), rfl, rfl, by omega, by rw [law1, lawT_ok htk, ordC, if_pos (now_eq t52), takeC_ok t52, knw_ok t_82, takeC_ok t_83, R84, takeC_ok t_85]; dsimp only; exact B86.lawW⟩)
          · refine J_st (.int (b2i false) :: []) rfl ?_
            refine J_ifeqb 140 C iX10_isLaw_127 rfl (fun h127 => ?_) (fun h127 => absurd (h127.symm.trans rfl) (by decide))
            refine J_iconst 0 C iX10_isLaw_140 rfl ?_
            exact J_zret C E iX10_isLaw_141 rfl (Or.inr ⟨i84, nI 0, nI s84, me84, od84, wi84, al84, upd dz y 4, upd bg (3 * y + 1) (nI s), upd en (3 * y + 1) (nI s84), rfl, rfl, by omega, by rw [law1, lawT_ok htk, ordC, if_pos (now_eq t52), takeC_ok t52, knw_ok t_82, takeC_ok t_83, R84]; dsimp only; exact (Bk.no n_85).sum0.lawW⟩)
        · refine J_st (.int (b2i false) :: []) rfl ?_
          refine J_ifeqb 140 C iX10_isLaw_118 rfl (fun h118 => ?_) (fun h118 => absurd (h118.symm.trans rfl) (by decide))
          refine J_iconst 0 C iX10_isLaw_140 rfl ?_
          exact J_zret C E iX10_isLaw_141 rfl (Or.inr ⟨i84, dp84, mn84, me84, od84, wi84, al84, upd dz y 4, upd bg (3 * y + 1) (nI s), en, rfl, rfl, by omega, by rw [law1, lawT_ok htk, ordC, if_pos (now_eq t52), takeC_ok t52, knw_ok t_82, takeC_ok t_83]; dsimp only; exact (B84.take (by decide)).sum0.lawW⟩)
      · refine J_st (.int (b2i false) :: []) rfl ?_
        refine J_ifeqb 140 C iX10_isLaw_108 rfl (fun h108 => ?_) (fun h108 => absurd (h108.symm.trans rfl) (by decide))
        refine J_iconst 0 C iX10_isLaw_140 rfl ?_
        exact J_zret C E iX10_isLaw_141 rfl (Or.inr ⟨(((i + 1) + 1) + 1), nI 0, nI s, upd (upd me i 4) ((i + 1) + 1) 5, od, wi, al, upd dz y 4, bg, en, rfl, rfl, by omega, by rw [law1, lawT_ok htk, ordC, if_pos (now_eq t52), takeC_ok t52, knw_ok t_82]; dsimp only; exact ((Bk.no n_83).sum0.take (by decide)).sum0.lawW⟩)
    · refine J_st (.int (b2i false) :: []) rfl ?_
      refine J_ifneb 98 C iX10_isLaw_93 rfl (fun h93 => absurd (h93.symm.trans rfl) (by decide)) (fun h93 => ?_)
      refine J_iconst 0 C iX10_isLaw_96 rfl ?_
      exact J_zret C E iX10_isLaw_97 rfl (Or.inr ⟨((i + 1) + 1), nI 0, nI s, upd (upd me i 4) ((i + 1) + 1) 5, od, wi, al, upd dz y 4, bg, en, rfl, rfl, by omega, by rw [law1, lawT_ok htk, ordC, if_pos (now_eq t52), takeC_ok t52]; dsimp only; exact ((((Bk.kno n_82).take (by decide)).sum0.take (by decide)).sum0).lawW⟩)
  · have n52 : tq (i + 1) ≠ 4 := fun z => h52 ((kdT (k := 4) (hkd _ (by omega)) (htq _) (by decide) rfl).mpr z)
    refine J_iload_n C iX10_isLaw_55 rfl rfl ?_
    refine J_bipush 7 C iX10_isLaw_56 rfl ?_
    refine J_icmpeq 69 C iX10_isLaw_58 rfl (fun h58 => ?_) (fun h58 => ?_)
    · have t58 : tq (i + 1) = 7 := (kdT (k := 7) (hkd _ (by omega)) (htq _) (by decide) rfl).mp h58
      have hl1 : i + 1 < Lt := hend (i + 1) (by omega) (by rw [t58]; decide) (by rw [t58]; decide)
      refine J_lvm [(3, .int 7), (2, .int (nI y)), (0, .ref (mo 0)), (1, .ref (pn 0))] (by rw [h58]; rfl) ?_
      refine J_aload_n C iX10_isLaw_69 rfl rfl ?_
      refine J_get (.ref (pn 4)) 17 C iX10_isLaw_70 gf_X10_167 rfl rfl ?_
      refine J_iload_n C iX10_isLaw_73 rfl rfl ?_
      refine J_iload_n C iX10_isLaw_74 rfl rfl ?_
      refine J_iast (wMd Z mo pl th sz ea (nI (i + 1)) (nI 0) (nI (u + 1)) dy ca kn tp kd fr (upd me i 4) va wo pc ht fs la kh kf kl sh dk sk ++ wPl Z pn hs ls (nI s) hn ha hh (upd dz (nI y).toNatClampNeg 7) wh bg en od wi al) 21 C iX10_isLaw_75 rfl (vp_in_nI (n := y) (by omega) (by decide)) rfl ?_
      rw [nI_clamp (n := y) (by omega)]
      refine J_aload_n C iX10_isLaw_76 rfl rfl ?_
      refine J_dup C iX10_isLaw_77 rfl ?_
      refine J_get (.int (nI (i + 1))) 0 C iX10_isLaw_78 gf_X10_263 rfl rfl ?_
      refine J_iconst 1 C iX10_isLaw_81 rfl ?_
      refine J_iadd C iX10_isLaw_82 ?_
      rw [show (nI (i + 1)) + 1 = nI ((i + 1) + 1) from nI_add _ _]
      refine J_put (wMd Z mo pl th sz ea (nI ((i + 1) + 1)) (nI 0) (nI (u + 1)) dy ca kn tp kd fr (upd me i 4) va wo pc ht fs la kh kf kl sh dk sk ++ wPl Z pn hs ls (nI s) hn ha hh (upd dz y 7) wh bg en od wi al) 0 C iX10_isLaw_83 pf_X10_263 rfl rfl rfl (Nat.le_of_ble_eq_true rfl) rfl ?_
      refine J_aload_n C iX10_isLaw_86 rfl rfl ?_
      refine J_bipush 30 C iX10_isLaw_87 rfl ?_
      refine J_iconst 5 C iX10_isLaw_89 rfl ?_
      refine J_cV (As := [.int 30, .int 5]) (st := []) (rc2 := (rmK 44).cells) (rs2 := (rmK 44).slots) C iX10_isLaw_90 lm_X10_275 yc_X10_eatAs yv_X10_eatAs (c_X10_eatAs (k := 39) rfl (by decide) (by decide) (by decide) hLt hkd htq hend hva (by omega)) (q0 := 0) rfl rfl rfl rfl (rmK_le (by omega) (by decide)) (Nat.le_of_ble_eq_true rfl) rfl rfl ?_
      rintro _ _ (⟨rfl, rfl, t_89, l_89⟩ | ⟨rfl, rfl, n_89⟩)
      · refine J_st (.int (b2i true) :: []) rfl ?_
        have hme1 : ∀ k, i + 1 + 1 + 1 ≤ k → k ≤ Lt → (upd (upd me i 4) (i + 1 + 1) 5) k = 0 := fun k h1 h2 => by rw [upd_n (by omega), upd_n (by omega)]; exact hme k (by omega) h2
        have S7 : Gs Lt tq sq vq nm m (i + 1 + 1 + 1) s (upd (upd me i 4) (i + 1 + 1) 5) od wi al (tlK sq vq nm m (i + 1 + 1) (lwT sq i uc (e, a))).1 (tlK sq vq nm m (i + 1 + 1) (lwT sq i uc (e, a))).2 o g j (((i + 1) + 1) + 1) s (upd (upd me i 4) ((i + 1) + 1) 5) od wi al ((tlK sq vq nm m (i + 1 + 1) (lwT sq i uc (e, a))).1) ((tlK sq vq nm m (i + 1 + 1) (lwT sq i uc (e, a))).2) o g j := Gs.nil (by omega)
        refine J_ifneb 98 C iX10_isLaw_93 rfl (fun h93 => ?_) (fun h93 => absurd (h93.symm.trans rfl) (by decide))
        refine J_iload_n C iX10_isLaw_98 rfl rfl ?_
        refine J_iconst 4 C iX10_isLaw_99 rfl ?_
        refine J_icmpne 142 C iX10_isLaw_100 rfl (fun h100 => ?_) (fun h100 => absurd h100 (by decide))
        refine J_iload_n C iX10_isLaw_142 rfl rfl ?_
        refine J_bipush 8 C iX10_isLaw_143 rfl ?_
        refine J_icmpne 169 C iX10_isLaw_145 rfl (fun h145 => ?_) (fun h145 => absurd h145 (by decide))
        refine J_aload_n C iX10_isLaw_169 rfl rfl ?_
        refine J_aload_n C iX10_isLaw_170 rfl rfl ?_
        refine J_iload_n C iX10_isLaw_171 rfl rfl ?_
        refine J_iconst 0 C iX10_isLaw_172 rfl ?_
        refine J_cV (As := [.ref (pn 0), .int (nI y), .int 0]) (st := []) (rc2 := (rmK 44).cells) (rs2 := (rmK 44).slots) C iX10_isLaw_173 lm_X10_318 yc_X10_begins yv_X10_begins (c_X10_begins (s := s) (y := y) (x := 0) (by omega) (by omega)) (q0 := 0) rfl rfl rfl rfl (rmK_le (by omega) (by decide)) (Nat.le_of_ble_eq_true rfl) rfl rfl ?_
        rintro _ _ ⟨rfl, rfl⟩
        refine J_st ([]) rfl ?_
        refine J_aload_n C iX10_isLaw_176 rfl rfl ?_
        refine J_aload_n C iX10_isLaw_177 rfl rfl ?_
        refine J_iload_n C iX10_isLaw_178 rfl rfl ?_
        refine J_iconst 0 C iX10_isLaw_179 rfl ?_
        refine J_cV (As := [.ref (pn 0), .int (nI y), .int 0]) (st := []) (rc2 := (rmK 44).cells) (rs2 := (rmK 44).slots) C iX10_isLaw_180 lm_X10_320 yc_X10_ends yv_X10_ends (c_X10_ends (s := s) (y := y) (x := 0) (by omega) (by omega)) (q0 := 0) rfl rfl rfl rfl (rmK_le (by omega) (by decide)) (Nat.le_of_ble_eq_true rfl) rfl rfl ?_
        rintro _ _ ⟨rfl, rfl⟩
        refine J_st ([]) rfl ?_
        refine J_aload_n C iX10_isLaw_183 rfl rfl ?_
        refine J_bipush 10 C iX10_isLaw_184 rfl ?_
        refine J_cV (As := [.int 10]) (st := []) (rc2 := (rmK 44).cells) (rs2 := (rmK 44).slots) C iX10_isLaw_186 lm_X10_266 yc_X10_eat yv_X10_eat (c_X10_eat (k := 10) rfl (by decide) (by decide) (by decide) hLt hkd htq hend hva (by omega)) (q0 := 0) rfl rfl rfl rfl (rmK_le (by omega) (by decide)) (Nat.le_of_ble_eq_true rfl) rfl rfl ?_
        rintro _ _ (⟨rfl, rfl, t_90, l_90⟩ | ⟨rfl, rfl, n_90⟩)
        · refine J_st (.int (b2i true) :: []) rfl ?_
          have S8 : Gs Lt tq sq vq nm m (i + 1 + 1 + 1) s (upd (upd me i 4) (i + 1 + 1) 5) od wi al (tlK sq vq nm m (i + 1 + 1) (lwT sq i uc (e, a))).1 (tlK sq vq nm m (i + 1 + 1) (lwT sq i uc (e, a))).2 o g j ((((i + 1) + 1) + 1) + 1) s (upd (upd me i 4) ((i + 1) + 1) 5) od wi al ((tlK sq vq nm m (i + 1 + 1) (lwT sq i uc (e, a))).1) ((tlK sq vq nm m (i + 1 + 1) (lwT sq i uc (e, a))).2) o g j := S7.tok l_90 (hme1 _ (by omega) (by omega))
          refine J_ifeqb 202 C iX10_isLaw_189 rfl (fun h189 => absurd (h189.symm.trans rfl) (by decide)) (fun h189 => ?_)
          refine J_aload_n C iX10_isLaw_192 rfl rfl ?_
          refine J_aload_n C iX10_isLaw_193 rfl rfl ?_
          refine J_iload_n C iX10_isLaw_194 rfl rfl ?_
          refine J_iconst 0 C iX10_isLaw_195 rfl ?_
          refine J_cV (As := [.ref (pn 0), .int (nI y), .int 0]) (st := []) (rc2 := (rmK 44).cells) (rs2 := (rmK 44).slots) C iX10_isLaw_196 lm_X10_325 yc_X10_isPart yv_X10_isPart (c_X10_isPart_0 (m := m) (sq := sq) (nm := nm) hLt hkd htq hend hva (e := (tlK sq vq nm m (i + 1 + 1) (lwT sq i uc (e, a))).1) (a := (tlK sq vq nm m (i + 1 + 1) (lwT sq i uc (e, a))).2) (o := o) (g := g) (j := j) (by omega) (by omega) (fun k h1 h2 => hme1 k (by omega) h2) (by omega)) (q0 := 0) rfl rfl rfl rfl (rmK_le (by omega) (by decide)) (Nat.le_of_ble_eq_true rfl) rfl rfl ?_
          rintro _ _ (⟨i91, s91, me91, od91, wi91, al91, e91, a91, o91, g91, j91, rfl, rfl, R91, G91⟩ | ⟨i91, dp91, mn91, me91, od91, wi91, al91, rfl, rfl, hL91, B91⟩)
          · refine J_st (.int (b2i true) :: []) rfl ?_
            have hil91 := G91.il
            have hiL91 := G91.iL
            have hsl91 := G91.sl
            have hss91 := G91.ss
            have hme91 : ∀ k, i91 ≤ k → k ≤ Lt → me91 k = 0 := fun k h1 h2 => (G91.fm k (Or.inr h1)).trans (hme1 k (by omega) h2)
            have S9 : Gs Lt tq sq vq nm m (i + 1 + 1 + 1) s (upd (upd me i 4) (i + 1 + 1) 5) od wi al (tlK sq vq nm m (i + 1 + 1) (lwT sq i uc (e, a))).1 (tlK sq vq nm m (i + 1 + 1) (lwT sq i uc (e, a))).2 o g j i91 s91 me91 od91 wi91 al91 e91 a91 o91 g91 j91 := S8.app G91
            refine J_ifeqb 206 C iX10_isLaw_199 rfl (fun h199 => absurd (h199.symm.trans rfl) (by decide)) (fun h199 => ?_)
            refine J_iconst 1 C iX10_isLaw_202 rfl ?_
            refine J_goto 207 C iX10_isLaw_203 rfl ?_
            exact J_zret C E iX10_isLaw_207 rfl (Or.inl ⟨i91, s91, me91, od91, wi91, al91, e91, a91, o91, g91, j91, upd dz y 7, upd (upd bg (3 * y + 0) (nI s)) (3 * y + 0) (nI s), upd (upd en (3 * y + 0) (nI s)) (3 * y + 0) (nI s91), 1, hnF nm (vq (i + 1 + 1)) m, nI s, nI s, nI s, nI s91, rfl, rfl, by rw [lawC, lawT_ok htk, ordC, if_neg (now_ne (c := 4) t58 (by decide)), if_pos (now_eq t58), takeC_ok t58, hse_ok t_89, knw_ok t_89, lawE_w, lawW, if_pos (now_eq t_90), takeC_ok t_90, R91]; rfl, t_89, rfl, S9, ⟨s, s, s, s91, by omega, by omega, by omega, by omega, rfl, rfl, rfl, rfl, (upd_e (by omega)), (upd_e (by omega)), Or.inr G91.sg, Or.inr (Or.inl ⟨rfl, (upd_e (by omega))⟩)⟩, fun k hk => upd_n hk, fun k hk => ⟨((upd_n (by omega)).trans (upd_n (by omega))), ((upd_n (by omega)).trans (upd_n (by omega)))⟩⟩)
          · refine J_st (.int (b2i false) :: []) rfl ?_
            refine J_ifeqb 206 C iX10_isLaw_199 rfl (fun h199 => ?_) (fun h199 => absurd (h199.symm.trans rfl) (by decide))
            refine J_iconst 0 C iX10_isLaw_206 rfl ?_
            exact J_zret C E iX10_isLaw_207 rfl (Or.inr ⟨i91, dp91, mn91, me91, od91, wi91, al91, upd dz y 7, upd (upd bg (3 * y + 0) (nI s)) (3 * y + 0) (nI s), upd en (3 * y + 0) (nI s), rfl, rfl, by omega, by rw [law1, lawT_ok htk, ordC, if_neg (now_ne (c := 4) t58 (by decide)), if_pos (now_eq t58), takeC_ok t58, knw_ok t_89]; dsimp only; rw [lawW, if_pos (now_eq t_90)]; rw [takeC_ok t_90]; exact B91⟩)
        · refine J_st (.int (b2i false) :: []) rfl ?_
          refine J_ifeqb 202 C iX10_isLaw_189 rfl (fun h189 => ?_) (fun h189 => absurd (h189.symm.trans rfl) (by decide))
          refine J_iconst 1 C iX10_isLaw_202 rfl ?_
          refine J_goto 207 C iX10_isLaw_203 rfl ?_
          exact J_zret C E iX10_isLaw_207 rfl (Or.inl ⟨(((i + 1) + 1) + 1), s, upd (upd me i 4) ((i + 1) + 1) 5, od, wi, al, (tlK sq vq nm m (i + 1 + 1) (lwT sq i uc (e, a))).1, (tlK sq vq nm m (i + 1 + 1) (lwT sq i uc (e, a))).2, o, g, j, upd dz y 7, upd bg (3 * y + 0) (nI s), upd en (3 * y + 0) (nI s), 1, hnF nm (vq (i + 1 + 1)) m, nI s, nI s, nI s, nI s, rfl, rfl, by rw [lawC, lawT_ok htk, ordC, if_neg (now_ne (c := 4) t58 (by decide)), if_pos (now_eq t58), takeC_ok t58, hse_ok t_89, knw_ok t_89, lawE_w, lawW, if_neg (now_nn n_90)]; rfl, t_89, rfl, S7, ⟨s, s, s, s, by omega, by omega, by omega, by omega, rfl, rfl, rfl, rfl, (upd_e (by omega)), (upd_e (by omega)), Or.inl rfl, Or.inr (Or.inl ⟨rfl, (upd_e (by omega))⟩)⟩, fun k hk => upd_n hk, fun k hk => ⟨(upd_n (by omega)), (upd_n (by omega))⟩⟩)
      · refine J_st (.int (b2i false) :: []) rfl ?_
        refine J_ifneb 98 C iX10_isLaw_93 rfl (fun h93 => absurd (h93.symm.trans rfl) (by decide)) (fun h93 => ?_)
        refine J_iconst 0 C iX10_isLaw_96 rfl ?_
        exact J_zret C E iX10_isLaw_97 rfl (Or.inr ⟨((i + 1) + 1), nI 0, nI s, upd (upd me i 4) ((i + 1) + 1) 5, od, wi, al, upd dz y 7, bg, en, rfl, rfl, by omega, by rw [law1, lawT_ok htk, ordC, if_neg (now_ne (c := 4) t58 (by decide)), if_pos (now_eq t58), takeC_ok t58]; dsimp only; exact (Bk.kno n_89).lawW⟩)
    · have n58 : tq (i + 1) ≠ 7 := fun z => h58 ((kdT (k := 7) (hkd _ (by omega)) (htq _) (by decide) rfl).mpr z)
      refine J_iload_n C iX10_isLaw_61 rfl rfl ?_
      refine J_bipush 8 C iX10_isLaw_62 rfl ?_
      refine J_icmpeq 69 C iX10_isLaw_64 rfl (fun h64 => ?_) (fun h64 => ?_)
      · have t64 : tq (i + 1) = 8 := (kdT (k := 8) (hkd _ (by omega)) (htq _) (by decide) rfl).mp h64
        have hl1 : i + 1 < Lt := hend (i + 1) (by omega) (by rw [t64]; decide) (by rw [t64]; decide)
        refine J_lvm [(3, .int 8), (2, .int (nI y)), (0, .ref (mo 0)), (1, .ref (pn 0))] (by rw [h64]; rfl) ?_
        refine J_aload_n C iX10_isLaw_69 rfl rfl ?_
        refine J_get (.ref (pn 4)) 17 C iX10_isLaw_70 gf_X10_167 rfl rfl ?_
        refine J_iload_n C iX10_isLaw_73 rfl rfl ?_
        refine J_iload_n C iX10_isLaw_74 rfl rfl ?_
        refine J_iast (wMd Z mo pl th sz ea (nI (i + 1)) (nI 0) (nI (u + 1)) dy ca kn tp kd fr (upd me i 4) va wo pc ht fs la kh kf kl sh dk sk ++ wPl Z pn hs ls (nI s) hn ha hh (upd dz (nI y).toNatClampNeg 8) wh bg en od wi al) 21 C iX10_isLaw_75 rfl (vp_in_nI (n := y) (by omega) (by decide)) rfl ?_
        rw [nI_clamp (n := y) (by omega)]
        refine J_aload_n C iX10_isLaw_76 rfl rfl ?_
        refine J_dup C iX10_isLaw_77 rfl ?_
        refine J_get (.int (nI (i + 1))) 0 C iX10_isLaw_78 gf_X10_263 rfl rfl ?_
        refine J_iconst 1 C iX10_isLaw_81 rfl ?_
        refine J_iadd C iX10_isLaw_82 ?_
        rw [show (nI (i + 1)) + 1 = nI ((i + 1) + 1) from nI_add _ _]
        refine J_put (wMd Z mo pl th sz ea (nI ((i + 1) + 1)) (nI 0) (nI (u + 1)) dy ca kn tp kd fr (upd me i 4) va wo pc ht fs la kh kf kl sh dk sk ++ wPl Z pn hs ls (nI s) hn ha hh (upd dz y 8) wh bg en od wi al) 0 C iX10_isLaw_83 pf_X10_263 rfl rfl rfl (Nat.le_of_ble_eq_true rfl) rfl ?_
        refine J_aload_n C iX10_isLaw_86 rfl rfl ?_
        refine J_bipush 30 C iX10_isLaw_87 rfl ?_
        refine J_iconst 5 C iX10_isLaw_89 rfl ?_
        refine J_cV (As := [.int 30, .int 5]) (st := []) (rc2 := (rmK 44).cells) (rs2 := (rmK 44).slots) C iX10_isLaw_90 lm_X10_275 yc_X10_eatAs yv_X10_eatAs (c_X10_eatAs (k := 39) rfl (by decide) (by decide) (by decide) hLt hkd htq hend hva (by omega)) (q0 := 0) rfl rfl rfl rfl (rmK_le (by omega) (by decide)) (Nat.le_of_ble_eq_true rfl) rfl rfl ?_
        rintro _ _ (⟨rfl, rfl, t_92, l_92⟩ | ⟨rfl, rfl, n_92⟩)
        · refine J_st (.int (b2i true) :: []) rfl ?_
          have hme1 : ∀ k, i + 1 + 1 + 1 ≤ k → k ≤ Lt → (upd (upd me i 4) (i + 1 + 1) 5) k = 0 := fun k h1 h2 => by rw [upd_n (by omega), upd_n (by omega)]; exact hme k (by omega) h2
          have S10 : Gs Lt tq sq vq nm m (i + 1 + 1 + 1) s (upd (upd me i 4) (i + 1 + 1) 5) od wi al (tlK sq vq nm m (i + 1 + 1) (lwT sq i uc (e, a))).1 (tlK sq vq nm m (i + 1 + 1) (lwT sq i uc (e, a))).2 o g j (((i + 1) + 1) + 1) s (upd (upd me i 4) ((i + 1) + 1) 5) od wi al ((tlK sq vq nm m (i + 1 + 1) (lwT sq i uc (e, a))).1) ((tlK sq vq nm m (i + 1 + 1) (lwT sq i uc (e, a))).2) o g j := Gs.nil (by omega)
          refine J_ifneb 98 C iX10_isLaw_93 rfl (fun h93 => ?_) (fun h93 => absurd (h93.symm.trans rfl) (by decide))
          refine J_iload_n C iX10_isLaw_98 rfl rfl ?_
          refine J_iconst 4 C iX10_isLaw_99 rfl ?_
          refine J_icmpne 142 C iX10_isLaw_100 rfl (fun h100 => ?_) (fun h100 => absurd h100 (by decide))
          refine J_iload_n C iX10_isLaw_142 rfl rfl ?_
          refine J_bipush 8 C iX10_isLaw_143 rfl ?_
          refine J_icmpne 169 C iX10_isLaw_145 rfl (fun h145 => absurd (by decide) h145) (fun h145 => ?_)
          refine J_aload_n C iX10_isLaw_148 rfl rfl ?_
          refine J_bipush 9 C iX10_isLaw_149 rfl ?_
          refine J_cV (As := [.int 9]) (st := []) (rc2 := (rmK 44).cells) (rs2 := (rmK 44).slots) C iX10_isLaw_151 lm_X10_266 yc_X10_eat yv_X10_eat (c_X10_eat (k := 9) rfl (by decide) (by decide) (by decide) hLt hkd htq hend hva (by omega)) (q0 := 0) rfl rfl rfl rfl (rmK_le (by omega) (by decide)) (Nat.le_of_ble_eq_true rfl) rfl rfl ?_
          rintro _ _ (⟨rfl, rfl, t_93, l_93⟩ | ⟨rfl, rfl, n_93⟩)
          · refine J_st (.int (b2i true) :: []) rfl ?_
            have S11 : Gs Lt tq sq vq nm m (i + 1 + 1 + 1) s (upd (upd me i 4) (i + 1 + 1) 5) od wi al (tlK sq vq nm m (i + 1 + 1) (lwT sq i uc (e, a))).1 (tlK sq vq nm m (i + 1 + 1) (lwT sq i uc (e, a))).2 o g j ((((i + 1) + 1) + 1) + 1) s (upd (upd me i 4) ((i + 1) + 1) 5) od wi al ((tlK sq vq nm m (i + 1 + 1) (lwT sq i uc (e, a))).1) ((tlK sq vq nm m (i + 1 + 1) (lwT sq i uc (e, a))).2) o g j := S10.tok l_93 (hme1 _ (by omega) (by omega))
            refine J_ifeqb 167 C iX10_isLaw_154 rfl (fun h154 => absurd (h154.symm.trans rfl) (by decide)) (fun h154 => ?_)
            refine J_aload_n C iX10_isLaw_157 rfl rfl ?_
            refine J_aload_n C iX10_isLaw_158 rfl rfl ?_
            refine J_iload_n C iX10_isLaw_159 rfl rfl ?_
            refine J_iconst 1 C iX10_isLaw_160 rfl ?_
            refine J_cV (As := [.ref (pn 0), .int (nI y), .int 1]) (st := []) (rc2 := (rmK 44).cells) (rs2 := (rmK 44).slots) C iX10_isLaw_161 lm_X10_325 yc_X10_isPart yv_X10_isPart (c_X10_isPart_1 (m := m) (sq := sq) (nm := nm) hLt hkd htq hend hva (e := (tlK sq vq nm m (i + 1 + 1) (lwT sq i uc (e, a))).1) (a := (tlK sq vq nm m (i + 1 + 1) (lwT sq i uc (e, a))).2) (o := o) (g := g) (j := j) (by omega) (by omega) (fun k h1 h2 => hme1 k (by omega) h2) (by omega)) (q0 := 0) rfl rfl rfl rfl (rmK_le (by omega) (by decide)) (Nat.le_of_ble_eq_true rfl) rfl rfl ?_
            rintro _ _ (⟨i94, s94, me94, od94, wi94, al94, e94, a94, o94, g94, j94, rfl, rfl, R94, G94⟩ | ⟨i94, dp94, mn94, me94, od94, wi94, al94, rfl, rfl, hL94, B94⟩)
            · refine J_st (.int (b2i true) :: []) rfl ?_
              have hil94 := G94.il
              have hiL94 := G94.iL
              have hsl94 := G94.sl
              have hss94 := G94.ss
              have hme94 : ∀ k, i94 ≤ k → k ≤ Lt → me94 k = 0 := fun k h1 h2 => (G94.fm k (Or.inr h1)).trans (hme1 k (by omega) h2)
              have S12 : Gs Lt tq sq vq nm m (i + 1 + 1 + 1) s (upd (upd me i 4) (i + 1 + 1) 5) od wi al (tlK sq vq nm m (i + 1 + 1) (lwT sq i uc (e, a))).1 (tlK sq vq nm m (i + 1 + 1) (lwT sq i uc (e, a))).2 o g j i94 s94 me94 od94 wi94 al94 e94 a94 o94 g94 j94 := S11.app G94
              refine J_ifneb 169 C iX10_isLaw_164 rfl (fun h164 => ?_) (fun h164 => absurd (h164.symm.trans rfl) (by decide))
              refine J_aload_n C iX10_isLaw_169 rfl rfl ?_
              refine J_aload_n C iX10_isLaw_170 rfl rfl ?_
              refine J_iload_n C iX10_isLaw_171 rfl rfl ?_
              refine J_iconst 0 C iX10_isLaw_172 rfl ?_
              refine J_cV (As := [.ref (pn 0), .int (nI y), .int 0]) (st := []) (rc2 := (rmK 44).cells) (rs2 := (rmK 44).slots) C iX10_isLaw_173 lm_X10_318 yc_X10_begins yv_X10_begins (c_X10_begins (s := s94) (y := y) (x := 0) (by omega) (by omega)) (q0 := 0) rfl rfl rfl rfl (rmK_le (by omega) (by decide)) (Nat.le_of_ble_eq_true rfl) rfl rfl ?_
              rintro _ _ ⟨rfl, rfl⟩
              refine J_st ([]) rfl ?_
              refine J_aload_n C iX10_isLaw_176 rfl rfl ?_
              refine J_aload_n C iX10_isLaw_177 rfl rfl ?_
              refine J_iload_n C iX10_isLaw_178 rfl rfl ?_
              refine J_iconst 0 C iX10_isLaw_179 rfl ?_
              refine J_cV (As := [.ref (pn 0), .int (nI y), .int 0]) (st := []) (rc2 := (rmK 44).cells) (rs2 := (rmK 44).slots) C iX10_isLaw_180 lm_X10_320 yc_X10_ends yv_X10_ends (c_X10_ends (s := s94) (y := y) (x := 0) (by omega) (by omega)) (q0 := 0) rfl rfl rfl rfl (rmK_le (by omega) (by decide)) (Nat.le_of_ble_eq_true rfl) rfl rfl ?_
              rintro _ _ ⟨rfl, rfl⟩
              refine J_st ([]) rfl ?_
              refine J_aload_n C iX10_isLaw_183 rfl rfl ?_
              refine J_bipush 10 C iX10_isLaw_184 rfl ?_
              refine J_cV (As := [.int 10]) (st := []) (rc2 := (rmK 44).cells) (rs2 := (rmK 44).slots) C iX10_isLaw_186 lm_X10_266 yc_X10_eat yv_X10_eat (c_X10_eat (k := 10) rfl (by decide) (by decide) (by decide) hLt hkd htq hend hva (by omega)) (q0 := 0) rfl rfl rfl rfl (rmK_le (by omega) (by decide)) (Nat.le_of_ble_eq_true rfl) rfl rfl ?_
              rintro _ _ (⟨rfl, rfl, t_95, l_95⟩ | ⟨rfl, rfl, n_95⟩)
              · refine J_st (.int (b2i true) :: []) rfl ?_
                have S13 : Gs Lt tq sq vq nm m (i + 1 + 1 + 1) s (upd (upd me i 4) (i + 1 + 1) 5) od wi al (tlK sq vq nm m (i + 1 + 1) (lwT sq i uc (e, a))).1 (tlK sq vq nm m (i + 1 + 1) (lwT sq i uc (e, a))).2 o g j (i94 + 1) s94 me94 od94 wi94 al94 e94 a94 o94 g94 j94 := S12.tok l_95 (hme1 _ (by omega) (by omega))
                refine J_ifeqb 202 C iX10_isLaw_189 rfl (fun h189 => absurd (h189.symm.trans rfl) (by decide)) (fun h189 => ?_)
                refine J_aload_n C iX10_isLaw_192 rfl rfl ?_
                refine J_aload_n C iX10_isLaw_193 rfl rfl ?_
                refine J_iload_n C iX10_isLaw_194 rfl rfl ?_
                refine J_iconst 0 C iX10_isLaw_195 rfl ?_
                refine J_cV (As := [.ref (pn 0), .int (nI y), .int 0]) (st := []) (rc2 := (rmK 44).cells) (rs2 := (rmK 44).slots) C iX10_isLaw_196 lm_X10_325 yc_X10_isPart yv_X10_isPart (c_X10_isPart_0 (m := m) (sq := sq) (nm := nm) hLt hkd htq hend hva (e := e94) (a := a94) (o := o94) (g := g94) (j := j94) (by omega) (by omega) (fun k h1 h2 => hme94 k (by omega) h2) (by omega)) (q0 := 0) rfl rfl rfl rfl (rmK_le (by omega) (by decide)) (Nat.le_of_ble_eq_true rfl) rfl rfl ?_
                rintro _ _ (⟨i96, s96, me96, od96, wi96, al96, e96, a96, o96, g96, j96, rfl, rfl, R96, G96⟩ | ⟨i96, dp96, mn96, me96, od96, wi96, al96, rfl, rfl, hL96, B96⟩)
                · refine J_st (.int (b2i true) :: []) rfl ?_
                  have hil96 := G96.il
                  have hiL96 := G96.iL
                  have hsl96 := G96.sl
                  have hss96 := G96.ss
                  have hme96 : ∀ k, i96 ≤ k → k ≤ Lt → me96 k = 0 := fun k h1 h2 => (G96.fm k (Or.inr h1)).trans (hme94 k (by omega) h2)
                  have S14 : Gs Lt tq sq vq nm m (i + 1 + 1 + 1) s (upd (upd me i 4) (i + 1 + 1) 5) od wi al (tlK sq vq nm m (i + 1 + 1) (lwT sq i uc (e, a))).1 (tlK sq vq nm m (i + 1 + 1) (lwT sq i uc (e, a))).2 o g j i96 s96 me96 od96 wi96 al96 e96 a96 o96 g96 j96 := S13.app G96
                  refine J_ifeqb 206 C iX10_isLaw_199 rfl (fun h199 => absurd (h199.symm.trans rfl) (by decide)) (fun h199 => ?_)
                  refine J_iconst 1 C iX10_isLaw_202 rfl ?_
                  refine J_goto 207 C iX10_isLaw_203 rfl ?_
                  exact J_zret C E iX10_isLaw_207 rfl (Or.inl ⟨i96, s96, me96, od96, wi96, al96, e96, a96, o96, g96, j96, upd dz y 8, upd (upd (upd bg (3 * y + 1) (nI s)) (3 * y + 0) (nI s94)) (3 * y + 0) (nI s94), upd (upd (upd en (3 * y + 1) (nI s94)) (3 * y + 0) (nI s94)) (3 * y + 0) (nI s96), 2, hnF nm (vq (i + 1 + 1)) m, nI s, nI s94, nI s94, nI s96, rfl, rfl, by rw [lawC, lawT_ok htk, ordC, if_neg (now_ne (c := 4) t64 (by decide)), if_neg (now_ne (c := 7) t64 (by decide)), takeC_ok t64, hse_ok t_92, knw_ok t_92, takeC_ok t_93, R94, lawE_w, lawW, if_pos (now_eq t_95), takeC_ok t_95, R96]; rfl, t_92, rfl, S14, ⟨s, s94, s94, s96, by omega, by omega, by omega, by omega, rfl, rfl, rfl, rfl, (upd_e (by omega)), (upd_e (by omega)), Or.inr G96.sg, Or.inr (Or.inr ⟨rfl, (upd_e (by omega)), ((upd_n (by omega)).trans ((upd_n (by omega)).trans (upd_e (by omega)))), ((upd_n (by omega)).trans ((upd_n (by omega)).trans (upd_e (by omega)))), (G94.sg.cong (fun r a b => (G96.fs r (by omega)).2.2.2.1))⟩)⟩, fun k hk => upd_n hk, fun k hk => ⟨((upd_n (by omega)).trans ((upd_n (by omega)).trans (upd_n (by omega)))), ((upd_n (by omega)).trans ((upd_n (by omega)).trans (upd_n (by omega))))⟩⟩)
                · refine J_st (.int (b2i false) :: []) rfl ?_
                  refine J_ifeqb 206 C iX10_isLaw_199 rfl (fun h199 => ?_) (fun h199 => absurd (h199.symm.trans rfl) (by decide))
                  refine J_iconst 0 C iX10_isLaw_206 rfl ?_
                  exact J_zret C E iX10_isLaw_207 rfl (Or.inr ⟨i96, dp96, mn96, me96, od96, wi96, al96, upd dz y 8, upd (upd (upd bg (3 * y + 1) (nI s)) (3 * y + 0) (nI s94)) (3 * y + 0) (nI s94), upd (upd en (3 * y + 1) (nI s94)) (3 * y + 0) (nI s94), rfl, rfl, by omega, by rw [law1, lawT_ok htk, ordC, if_neg (now_ne (c := 4) t64 (by decide)), if_neg (now_ne (c := 7) t64 (by decide)), takeC_ok t64, knw_ok t_92, takeC_ok t_93, R94]; dsimp only; rw [lawW, if_pos (now_eq t_95)]; rw [takeC_ok t_95]; exact B96⟩)
              · refine J_st (.int (b2i false) :: []) rfl ?_
                refine J_ifeqb 202 C iX10_isLaw_189 rfl (fun h189 => ?_) (fun h189 => absurd (h189.symm.trans rfl) (by decide))
                refine J_iconst 1 C iX10_isLaw_202 rfl ?_
                refine J_goto 207 C iX10_isLaw_203 rfl ?_
                exact J_zret C E iX10_isLaw_207 rfl (Or.inl ⟨i94, s94, me94, od94, wi94, al94, e94, a94, o94, g94, j94, upd dz y 8, upd (upd bg (3 * y + 1) (nI s)) (3 * y + 0) (nI s94), upd (upd en (3 * y + 1) (nI s94)) (3 * y + 0) (nI s94), 2, hnF nm (vq (i + 1 + 1)) m, nI s, nI s94, nI s94, nI s94, rfl, rfl, by rw [lawC, lawT_ok htk, ordC, if_neg (now_ne (c := 4) t64 (by decide)), if_neg (now_ne (c := 7) t64 (by decide)), takeC_ok t64, hse_ok t_92, knw_ok t_92, takeC_ok t_93, R94, lawE_w, lawW, if_neg (now_nn n_95)]; rfl, t_92, rfl, S12, ⟨s, s94, s94, s94, by omega, by omega, by omega, by omega, rfl, rfl, rfl, rfl, (upd_e (by omega)), (upd_e (by omega)), Or.inl rfl, Or.inr (Or.inr ⟨rfl, (upd_e (by omega)), ((upd_n (by omega)).trans (upd_e (by omega))), ((upd_n (by omega)).trans (upd_e (by omega))), G94.sg⟩)⟩, fun k hk => upd_n hk, fun k hk => ⟨((upd_n (by omega)).trans (upd_n (by omega))), ((upd_n (by omega)).trans (upd_n (by omega)))⟩⟩)
            · refine J_st (.int (b2i false) :: []) rfl ?_
              refine J_ifneb 169 C iX10_isLaw_164 rfl (fun h164 => absurd (h164.symm.trans rfl) (by decide)) (fun h164 => ?_)
              refine J_iconst 0 C iX10_isLaw_167 rfl ?_
              exact J_zret C E iX10_isLaw_168 rfl (Or.inr ⟨i94, dp94, mn94, me94, od94, wi94, al94, upd dz y 8, upd bg (3 * y + 1) (nI s), en, rfl, rfl, by omega, by rw [law1, lawT_ok htk, ordC, if_neg (now_ne (c := 4) t64 (by decide)), if_neg (now_ne (c := 7) t64 (by decide)), takeC_ok t64, knw_ok t_92, takeC_ok t_93]; dsimp only; exact B94.lawW⟩)
          · refine J_st (.int (b2i false) :: []) rfl ?_
            refine J_ifeqb 167 C iX10_isLaw_154 rfl (fun h154 => ?_) (fun h154 => absurd (h154.symm.trans rfl) (by decide))
            refine J_iconst 0 C iX10_isLaw_167 rfl ?_
            exact J_zret C E iX10_isLaw_168 rfl (Or.inr ⟨(((i + 1) + 1) + 1), nI 0, nI s, upd (upd me i 4) ((i + 1) + 1) 5, od, wi, al, upd dz y 8, bg, en, rfl, rfl, by omega, by rw [law1, lawT_ok htk, ordC, if_neg (now_ne (c := 4) t64 (by decide)), if_neg (now_ne (c := 7) t64 (by decide)), takeC_ok t64, knw_ok t_92]; dsimp only; exact (Bk.no n_93).sum0.lawW⟩)
        · refine J_st (.int (b2i false) :: []) rfl ?_
          refine J_ifneb 98 C iX10_isLaw_93 rfl (fun h93 => absurd (h93.symm.trans rfl) (by decide)) (fun h93 => ?_)
          refine J_iconst 0 C iX10_isLaw_96 rfl ?_
          exact J_zret C E iX10_isLaw_97 rfl (Or.inr ⟨((i + 1) + 1), nI 0, nI s, upd (upd me i 4) ((i + 1) + 1) 5, od, wi, al, upd dz y 8, bg, en, rfl, rfl, by omega, by rw [law1, lawT_ok htk, ordC, if_neg (now_ne (c := 4) t64 (by decide)), if_neg (now_ne (c := 7) t64 (by decide)), takeC_ok t64]; dsimp only; exact (((Bk.kno n_92).take (by decide)).sum0).lawW⟩)
      · have n64 : tq (i + 1) ≠ 8 := fun z => h64 ((kdT (k := 8) (hkd _ (by omega)) (htq _) (by decide) rfl).mpr z)
        refine J_iconst 0 C iX10_isLaw_67 rfl ?_
        exact J_zret C E iX10_isLaw_68 rfl (Or.inr ⟨(i + 1), nI 0, nI s, upd me i 4, od, wi, al, dz, bg, en, rfl, rfl, by omega, by rw [law1, lawT_ok htk, ordC, if_neg (now_nn n52), if_neg (now_nn n58)]; dsimp only; exact ((Bk.no (k := 8) n64).knw.take (by decide)).sum0.lawW⟩)

