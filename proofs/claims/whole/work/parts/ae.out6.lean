set_option maxRecDepth 100000 in
set_option maxHeartbeats 4000000 in
theorem c_X10_lostAfter {Z : GZ} {l : Launch} {mo pl : Nat → Nat} {N : Nat} {th sz ea tk dp lr dy ca mn : Int32} {kn : Bool} {hn va : Nat → Int64} {ha hh dz wh bg en od wi al tp kd fr me wo pc ht fs la kh kf kl sh dk sk : Nat → Int32} {u S : Nat} {q : Int32} {o g j l0 : Nat → Int32} {hx c0 c1 c2 c3 : Nat → Nat} (hN : N ≤ 12) (ok : kn = true → LkOk N pc ht fs la sh dk) (hu : u ≤ 16) (hS : S ≤ 400) (hrow : ∀ r, r < S → RowS N (od r) (wi r) (al r) (o r) (g r) (j r)) (hlaw : ∀ k, k < u → LawN o dz bg en S k (l0 k) (c0 k) (c1 k) (c2 k) (c3 k) ∧ wh k = nI (hx k) ∧ hx k < N) (hP : Pok N pc) (hFT : FTok N fs la)  : Ct Z l yX10_lostAfter cX10_lostAfter 5 (some .int) (rmK 12) [.ref (mo 0), .int q] (wMd Z mo pl th sz ea tk dp lr dy ca kn tp kd fr me va wo pc ht fs la kh kf kl sh dk sk ++ wPl Z pl (nI N) (nI u) mn hn ha hh dz wh bg en od wi al) (fun v w => (inX q 1 30 = false ∧ v = some (.int 0) ∧ w = (wMd Z mo pl 1 sz ea tk dp lr dy ca kn tp kd fr me va wo pc ht fs la kh kf kl sh dk sk ++ wPl Z pl (nI N) (nI u) mn hn ha hh dz wh bg en od wi al)) ∨ (∃ n sk2 ht2 fs2 la2 ca2 dy2 sh3 dk3, 1 ≤ n ∧ n ≤ 30 ∧ q = nI n ∧ dyN N pc o g j l0 hx c0 c1 c2 c3 u ((ht, fs, la), ca, dy) n = ((ht2, fs2, la2), ca2, dy2) ∧ FTok N fs2 la2 ∧ v = some (.int (alM N pc ht2 fs2 la2)) ∧ w = (wMd Z mo pl 0 sz ea tk dp lr dy ca false tp kd fr me va wo pc ht fs la ht fs la sh3 dk3 sk2 ++ wPl Z pl (nI N) (nI u) mn hn ha hh dz wh bg en od wi al))) := by
  refine Ct.ofJ (own := RX10) (nm := "lostAfter") (lv0 := [(0, .ref (mo 0)), (1, .int q)]) (by decide) rfl rfl (Nat.le_of_ble_eq_true rfl) rfl (fun X hXl C E => ?_)
  subst hXl
  refine J_aload_n C iX10_lostAfter_0 rfl rfl ?_
  refine J_iconst 0 C iX10_lostAfter_1 rfl ?_
  refine J_put (wMd Z mo pl 0 sz ea tk dp lr dy ca kn tp kd fr me va wo pc ht fs la kh kf kl sh dk sk ++ wPl Z pl (nI N) (nI u) mn hn ha hh dz wh bg en od wi al) 0 C iX10_lostAfter_2 pf_X10_70 rfl rfl rfl (Nat.le_of_ble_eq_true rfl) rfl ?_
  refine J_iload_n C iX10_lostAfter_5 rfl rfl ?_
  refine J_iconst 1 C iX10_lostAfter_6 rfl ?_
  refine J_bipush 30 C iX10_lostAfter_7 rfl ?_
  refine J_cSp (As := [.int q, .int 1, .int 30]) (st := []) C iX10_lostAfter_9 lm_X10_76 yc_X10_isIn ys_X10_isIn (c_X10_isIn (q := q) (a := 1) (b := 30)) rfl (rmK_le (by omega) (by decide)) (Nat.le_of_ble_eq_true rfl) ⟨rfl, rfl⟩ ?_
  rintro _ rfl
  refine J_st (.int (b2i (inX q 1 30)) :: []) rfl ?_
  refine J_ifneb 21 C iX10_lostAfter_12 rfl (fun h12 => ?_) (fun h12 => ?_)
  · obtain ⟨n, hn1, hn30, rfl⟩ := dayI h12
    refine J_aload_n C iX10_lostAfter_21 rfl rfl ?_
    refine J_get (.int dy) 0 C iX10_lostAfter_22 gf_X10_127 rfl rfl ?_
    refine J_istore_n [(2, .int dy), (0, .ref (mo 0)), (1, .int (nI n))] C iX10_lostAfter_25 rfl (by decide) rfl ?_
    refine J_aload_n C iX10_lostAfter_26 rfl rfl ?_
    refine J_get (.int ca) 0 C iX10_lostAfter_27 gf_X10_130 rfl rfl ?_
    refine J_istore_n [(3, .int ca), (2, .int dy), (0, .ref (mo 0)), (1, .int (nI n))] C iX10_lostAfter_30 rfl (by decide) rfl ?_
    refine J_aload_n C iX10_lostAfter_31 rfl rfl ?_
    refine J_cVb (As := []) (st := []) (rc2 := (rmK 12).cells) (rs2 := (rmK 12).slots) C iX10_lostAfter_32 lm_X10_417 yc_X10_keep yv_X10_keep (c_X10_keep (ls := 0) (mn := 0) (hn := fun _ => 0) (ha := fun _ => 0) (hh := fun _ => 0) (dz := fun _ => 0) (wh := fun _ => 0) (bg := fun _ => 0) (en := fun _ => 0) (od := fun _ => 0) (wi := fun _ => 0) (al := fun _ => 0)) (q0 := 0) rfl rfl rfl [] (wPl Z pl (nI N) (nI u) mn hn ha hh dz wh bg en od wi al) rfl rfl (rmK_le (by omega) (by decide)) (Nat.le_of_ble_eq_true rfl) rfl rfl ?_
    rintro _ _ ⟨rfl, rfl⟩
    refine J_st ([]) rfl ?_
    refine J_ws (wMd Z mo pl 0 sz ea tk dp lr dy ca kn tp kd fr me va wo pc ht fs la ht fs la sh dk sk ++ wPl Z pl (nI N) (nI u) mn hn ha hh dz wh bg en od wi al) rfl ?_
    refine J_aload_n C iX10_lostAfter_35 rfl rfl ?_
    refine J_iload_n C iX10_lostAfter_36 rfl rfl ?_
    refine J_cVb (As := [.int (nI n)]) (st := []) (rc2 := (rmK 12).cells) (rs2 := (rmK 12).slots) C iX10_lostAfter_37 lm_X10_414 yc_X10_pass yv_X10_pass (c_X10_pass (o := o) (g := g) (j := j) (l0 := l0) hN ok hn30 hu hS hrow hlaw hP hFT) (q0 := 0) rfl rfl rfl [] [] rfl rfl (rmK_le (by omega) (by decide)) (Nat.le_of_ble_eq_true rfl) rfl rfl ?_
    rintro _ _ ⟨kn_1, sh_1, dk_1, sk_1, ht_1, fs_1, la_1, ca_1, dy_1, rfl, rfl, hdy, okk1, ft1⟩
    refine J_st (.int (ca_1 - ca) :: []) rfl ?_
    refine J_ws (wMd Z mo pl 0 sz ea tk dp lr dy_1 ca_1 kn_1 tp kd fr me va wo pc ht_1 fs_1 la_1 ht fs la sh_1 dk_1 sk_1 ++ wPl Z pl (nI N) (nI u) mn hn ha hh dz wh bg en od wi al) rfl ?_
    refine J_pop C iX10_lostAfter_40 rfl ?_
    refine J_aload_n C iX10_lostAfter_41 rfl rfl ?_
    refine J_cVb (As := []) (st := []) (rc2 := (rmK 12).cells) (rs2 := (rmK 12).slots) C iX10_lostAfter_42 lm_X10_389 yc_X10_allLost yv_X10_allLost (c_X10_allLost hN okk1) (q0 := 0) rfl rfl rfl [] [] rfl rfl (rmK_le (by omega) (by decide)) (Nat.le_of_ble_eq_true rfl) rfl rfl ?_
    rintro _ _ ⟨kn_2, sh_2, dk_2, rfl, rfl, okk2⟩
    refine J_st (.int (alM N pc ht_1 fs_1 la_1) :: []) rfl ?_
    refine J_ws (wMd Z mo pl 0 sz ea tk dp lr dy_1 ca_1 kn_2 tp kd fr me va wo pc ht_1 fs_1 la_1 ht fs la sh_2 dk_2 sk_1 ++ wPl Z pl (nI N) (nI u) mn hn ha hh dz wh bg en od wi al) rfl ?_
    refine J_istore [(4, .int (alM N pc ht_1 fs_1 la_1)), (3, .int ca), (2, .int dy), (0, .ref (mo 0)), (1, .int (nI n))] C iX10_lostAfter_45 (by decide) rfl ?_
    refine J_aload_n C iX10_lostAfter_47 rfl rfl ?_
    refine J_iload_n C iX10_lostAfter_48 rfl rfl ?_
    refine J_iload_n C iX10_lostAfter_49 rfl rfl ?_
    refine J_cVb (As := [.int dy, .int ca]) (st := []) (rc2 := (rmK 12).cells) (rs2 := (rmK 12).slots) C iX10_lostAfter_50 lm_X10_420 yc_X10_bringBack yv_X10_bringBack (c_X10_bringBack (ls := 0) (mn := 0) (hn := fun _ => 0) (ha := fun _ => 0) (hh := fun _ => 0) (dz := fun _ => 0) (wh := fun _ => 0) (bg := fun _ => 0) (en := fun _ => 0) (od := fun _ => 0) (wi := fun _ => 0) (al := fun _ => 0)) (q0 := 0) rfl rfl rfl [] (wPl Z pl (nI N) (nI u) mn hn ha hh dz wh bg en od wi al) rfl rfl (rmK_le (by omega) (by decide)) (Nat.le_of_ble_eq_true rfl) rfl rfl ?_
    rintro _ _ ⟨rfl, rfl⟩
    refine J_st ([]) rfl ?_
    refine J_ws (wMd Z mo pl 0 sz ea tk dp lr dy ca false tp kd fr me va wo pc ht fs la ht fs la sh_2 dk_2 sk_1 ++ wPl Z pl (nI N) (nI u) mn hn ha hh dz wh bg en od wi al) rfl ?_
    refine J_iload C iX10_lostAfter_53 rfl ?_
    exact J_iret C E iX10_lostAfter_55 (Or.inr ⟨n, sk_1, ht_1, fs_1, la_1, ca_1, dy_1, sh_2, dk_2, hn1, hn30, rfl, hdy, ft1, rfl, rfl⟩)
  · refine J_aload_n C iX10_lostAfter_15 rfl rfl ?_
    refine J_iconst 1 C iX10_lostAfter_16 rfl ?_
    refine J_cVb (As := [.int 1]) (st := []) (rc2 := (rmK 12).cells) (rs2 := (rmK 12).slots) C iX10_lostAfter_17 lm_X10_380 yc_X10_no yv_X10_no c_X10_no (q0 := 0) rfl rfl rfl [] [] rfl rfl (rmK_le (by omega) (by decide)) (Nat.le_of_ble_eq_true rfl) rfl rfl ?_
    rintro _ _ ⟨rfl, rfl⟩
    refine J_st (.int 0 :: []) rfl ?_
    refine J_ws (wMd Z mo pl 1 sz ea tk dp lr dy ca kn tp kd fr me va wo pc ht fs la kh kf kl sh dk sk ++ wPl Z pl (nI N) (nI u) mn hn ha hh dz wh bg en od wi al) rfl ?_
    exact J_iret C E iX10_lostAfter_20 (Or.inl ⟨h12, rfl, rfl⟩)

