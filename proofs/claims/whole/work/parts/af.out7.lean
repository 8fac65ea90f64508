set_option maxRecDepth 100000 in
set_option maxHeartbeats 4000000 in
theorem c_X10_daysUntilLight {Z : GZ} {l : Launch} {mo pl : Nat → Nat} {N : Nat} {th sz ea tk dp lr dy ca mn : Int32} {kn : Bool} {hn va : Nat → Int64} {ha hh dz wh bg en od wi al tp kd fr me wo pc ht fs la kh kf kl sh dk sk : Nat → Int32} {u S : Nat} {o g j l0 : Nat → Int32} {hx c0 c1 c2 c3 : Nat → Nat} (hN : N ≤ 12) (ok : kn = true → LkOk N pc ht fs la sh dk) (hu : u ≤ 16) (hS : S ≤ 400) (hrow : ∀ r, r < S → RowS N (od r) (wi r) (al r) (o r) (g r) (j r)) (hlaw : ∀ k, k < u → LawN o dz bg en S k (l0 k) (c0 k) (c1 k) (c2 k) (c3 k) ∧ wh k = nI (hx k) ∧ hx k < N) (hP : Pok N pc) (hFT : FTok N fs la)  : Ct Z l yX10_daysUntilLight cX10_daysUntilLight 4 (some .int) (rmK 12) [.ref (mo 0)] (wMd Z mo pl th sz ea tk dp lr dy ca kn tp kd fr me va wo pc ht fs la kh kf kl sh dk sk ++ wPl Z pl (nI N) (nI u) mn hn ha hh dz wh bg en od wi al) (fun v w => ∃ sk2 sh2 dk2, v = some (.int (duG (fun k => alM N pc (dyN N pc o g j l0 hx c0 c1 c2 c3 u ((ht, fs, la), ca, dy) k).1.1 (dyN N pc o g j l0 hx c0 c1 c2 c3 u ((ht, fs, la), ca, dy) k).1.2.1 (dyN N pc o g j l0 hx c0 c1 c2 c3 u ((ht, fs, la), ca, dy) k).1.2.2) 31)) ∧ w = (wMd Z mo pl 0 sz ea tk dp lr dy ca false tp kd fr me va wo pc ht fs la ht fs la sh2 dk2 sk2 ++ wPl Z pl (nI N) (nI u) mn hn ha hh dz wh bg en od wi al)) := by
  refine Ct.ofJ (own := RX10) (nm := "daysUntilLight") (lv0 := [(0, .ref (mo 0))]) (by decide) rfl rfl (Nat.le_of_ble_eq_true rfl) rfl (fun X hXl C E => ?_)
  subst hXl
  refine J_aload_n C iX10_daysUntilLight_0 rfl rfl ?_
  refine J_iconst 0 C iX10_daysUntilLight_1 rfl ?_
  refine J_put (wMd Z mo pl 0 sz ea tk dp lr dy ca kn tp kd fr me va wo pc ht fs la kh kf kl sh dk sk ++ wPl Z pl (nI N) (nI u) mn hn ha hh dz wh bg en od wi al) 0 C iX10_daysUntilLight_2 pf_X10_70 rfl rfl rfl (Nat.le_of_ble_eq_true rfl) rfl ?_
  refine J_aload_n C iX10_daysUntilLight_5 rfl rfl ?_
  refine J_get (.int dy) 0 C iX10_daysUntilLight_6 gf_X10_127 rfl rfl ?_
  refine J_istore_n [(1, .int dy), (0, .ref (mo 0))] C iX10_daysUntilLight_9 rfl (by decide) rfl ?_
  refine J_aload_n C iX10_daysUntilLight_10 rfl rfl ?_
  refine J_get (.int ca) 0 C iX10_daysUntilLight_11 gf_X10_130 rfl rfl ?_
  refine J_istore_n [(2, .int ca), (1, .int dy), (0, .ref (mo 0))] C iX10_daysUntilLight_14 rfl (by decide) rfl ?_
  refine J_aload_n C iX10_daysUntilLight_15 rfl rfl ?_
  refine J_cVb (As := []) (st := []) (rc2 := (rmK 12).cells) (rs2 := (rmK 12).slots) C iX10_daysUntilLight_16 lm_X10_417 yc_X10_keep yv_X10_keep (c_X10_keep (ls := 0) (mn := 0) (hn := fun _ => 0) (ha := fun _ => 0) (hh := fun _ => 0) (dz := fun _ => 0) (wh := fun _ => 0) (bg := fun _ => 0) (en := fun _ => 0) (od := fun _ => 0) (wi := fun _ => 0) (al := fun _ => 0)) (q0 := 0) rfl rfl rfl [] (wPl Z pl (nI N) (nI u) mn hn ha hh dz wh bg en od wi al) rfl rfl (rmK_le (by omega) (by decide)) (Nat.le_of_ble_eq_true rfl) rfl rfl ?_
  rintro _ _ ⟨rfl, rfl⟩
  refine J_st ([]) rfl ?_
  refine J_ws (wMd Z mo pl 0 sz ea tk dp lr dy ca kn tp kd fr me va wo pc ht fs la ht fs la sh dk sk ++ wPl Z pl (nI N) (nI u) mn hn ha hh dz wh bg en od wi al) rfl ?_
  refine J_iconst 0 C iX10_daysUntilLight_19 rfl ?_
  refine J_istore_n [(3, .int 0), (2, .int ca), (1, .int dy), (0, .ref (mo 0))] C iX10_daysUntilLight_20 rfl (by decide) rfl ?_
  refine J_lvm [(3, .int 0), (2, .int ca), (1, .int dy), (0, .ref (mo 0))] (by rfl) ?_
  refine J_forI (σ := Bool × (Nat → Int32) × (Nat → Int32) × (Nat → Int32) × (Nat → Int32) × (Nat → Int32) × (Nat → Int32) × Int32 × Int32) (fun k q => [(3, .int (nI k)), (2, .int ca), (1, .int dy), (0, .ref (mo 0))]) (fun k q => (wMd Z mo pl 0 sz ea tk dp lr q.2.2.2.2.2.2.2.2 q.2.2.2.2.2.2.2.1 q.1 tp kd fr me va wo pc q.2.2.2.2.1 q.2.2.2.2.2.1 q.2.2.2.2.2.2.1 ht fs la q.2.1 q.2.2.1 q.2.2.2.1 ++ wPl Z pl (nI N) (nI u) mn hn ha hh dz wh bg en od wi al)) (fun k q => (q.1 = true → LkOk N pc q.2.2.2.2.1 q.2.2.2.2.2.1 q.2.2.2.2.2.2.1 q.2.1 q.2.2.1) ∧ FTok N q.2.2.2.2.2.1 q.2.2.2.2.2.2.1 ∧ dyN N pc o g j l0 hx c0 c1 c2 c3 u ((ht, fs, la), ca, dy) k = ((q.2.2.2.2.1, q.2.2.2.2.2.1, q.2.2.2.2.2.2.1), q.2.2.2.2.2.2.2.1, q.2.2.2.2.2.2.2.2) ∧ ∀ jj, jj < k → ¬ (fun k => alM N pc (dyN N pc o g j l0 hx c0 c1 c2 c3 u ((ht, fs, la), ca, dy) k).1.1 (dyN N pc o g j l0 hx c0 c1 c2 c3 u ((ht, fs, la), ca, dy) k).1.2.1 (dyN N pc o g j l0 hx c0 c1 c2 c3 u ((ht, fs, la), ca, dy) k).1.2.2) jj = 0) 31 0 (kn, sh, dk, sk, ht, fs, la, ca, dy) (by omega) ⟨ok, hFT, rfl, fun _ h => absurd h (Nat.not_lt_zero _)⟩ ?_ ?_
  · rintro ⟨kn5, sh5, dk5, sk5, ht5, fs5, la5, ca5, dy5⟩ hI
    dsimp only at hI ⊢
    refine J_iload_n C iX10_daysUntilLight_21 rfl rfl ?_
    refine J_bipush 30 C iX10_daysUntilLight_22 rfl ?_
    refine J_icmpgt 46 C iX10_daysUntilLight_24 rfl (fun h24 => ?_) (fun h24 => absurd (by decide) h24)
    refine J_aload_n C iX10_daysUntilLight_46 rfl rfl ?_
    refine J_iload_n C iX10_daysUntilLight_47 rfl rfl ?_
    refine J_iload_n C iX10_daysUntilLight_48 rfl rfl ?_
    refine J_cVb (As := [.int dy, .int ca]) (st := []) (rc2 := (rmK 12).cells) (rs2 := (rmK 12).slots) C iX10_daysUntilLight_49 lm_X10_420 yc_X10_bringBack yv_X10_bringBack (c_X10_bringBack (ls := 0) (mn := 0) (hn := fun _ => 0) (ha := fun _ => 0) (hh := fun _ => 0) (dz := fun _ => 0) (wh := fun _ => 0) (bg := fun _ => 0) (en := fun _ => 0) (od := fun _ => 0) (wi := fun _ => 0) (al := fun _ => 0)) (q0 := 0) rfl rfl rfl [] (wPl Z pl (nI N) (nI u) mn hn ha hh dz wh bg en od wi al) rfl rfl (rmK_le (by omega) (by decide)) (Nat.le_of_ble_eq_true rfl) rfl rfl ?_
    rintro _ _ ⟨rfl, rfl⟩
    refine J_st ([]) rfl ?_
    refine J_ws (wMd Z mo pl 0 sz ea tk dp lr dy ca false tp kd fr me va wo pc ht fs la ht fs la sh5 dk5 sk5 ++ wPl Z pl (nI N) (nI u) mn hn ha hh dz wh bg en od wi al) rfl ?_
    refine J_iload_n C iX10_daysUntilLight_52 rfl rfl ?_
    refine J_bipush 30 C iX10_daysUntilLight_53 rfl ?_
    refine J_icmple 62 C iX10_daysUntilLight_55 rfl (fun h55 => absurd h55 (by decide)) (fun h55 => ?_)
    refine J_iconst (-1) C iX10_daysUntilLight_58 rfl ?_
    refine J_goto 63 C iX10_daysUntilLight_59 rfl ?_
    exact J_iret C E iX10_daysUntilLight_63 ⟨sk5, sh5, dk5, by rw [duG_none hI.2.2.2], rfl⟩
  · rintro k ⟨kn5, sh5, dk5, sk5, ht5, fs5, la5, ca5, dy5⟩ hk0 hk hI ih
    dsimp only at hI ⊢
    refine J_iload_n C iX10_daysUntilLight_21 rfl rfl ?_
    refine J_bipush 30 C iX10_daysUntilLight_22 rfl ?_
    refine J_icmpgt 46 C iX10_daysUntilLight_24 rfl (fun h24 => absurd h24 (nI_nlt (a := 30) (b := k) (by omega) (by decide))) (fun h24 => ?_)
    refine J_aload_n C iX10_daysUntilLight_27 rfl rfl ?_
    refine J_cVb (As := []) (st := []) (rc2 := (rmK 12).cells) (rs2 := (rmK 12).slots) C iX10_daysUntilLight_28 lm_X10_389 yc_X10_allLost yv_X10_allLost (c_X10_allLost hN hI.1) (q0 := 0) rfl rfl rfl [] [] rfl rfl (rmK_le (by omega) (by decide)) (Nat.le_of_ble_eq_true rfl) rfl rfl ?_
    rintro _ _ ⟨kn_2, sh_2, dk_2, rfl, rfl, okk2⟩
    refine J_st (.int (alM N pc ht5 fs5 la5) :: []) rfl ?_
    refine J_ws (wMd Z mo pl 0 sz ea tk dp lr dy5 ca5 kn_2 tp kd fr me va wo pc ht5 fs5 la5 ht fs la sh_2 dk_2 sk5 ++ wPl Z pl (nI N) (nI u) mn hn ha hh dz wh bg en od wi al) rfl ?_
    obtain ⟨t9, ht9, hal9⟩ := al_nat (P := pc) (H := ht5) (F := fs5) (T := la5) hN
    refine J_ifle 46 C iX10_daysUntilLight_31 rfl (fun h31 => ?_) (fun h31 => ?_)
    · refine J_aload_n C iX10_daysUntilLight_46 rfl rfl ?_
      refine J_iload_n C iX10_daysUntilLight_47 rfl rfl ?_
      refine J_iload_n C iX10_daysUntilLight_48 rfl rfl ?_
      refine J_cVb (As := [.int dy, .int ca]) (st := []) (rc2 := (rmK 12).cells) (rs2 := (rmK 12).slots) C iX10_daysUntilLight_49 lm_X10_420 yc_X10_bringBack yv_X10_bringBack (c_X10_bringBack (ls := 0) (mn := 0) (hn := fun _ => 0) (ha := fun _ => 0) (hh := fun _ => 0) (dz := fun _ => 0) (wh := fun _ => 0) (bg := fun _ => 0) (en := fun _ => 0) (od := fun _ => 0) (wi := fun _ => 0) (al := fun _ => 0)) (q0 := 0) rfl rfl rfl [] (wPl Z pl (nI N) (nI u) mn hn ha hh dz wh bg en od wi al) rfl rfl (rmK_le (by omega) (by decide)) (Nat.le_of_ble_eq_true rfl) rfl rfl ?_
      rintro _ _ ⟨rfl, rfl⟩
      refine J_st ([]) rfl ?_
      refine J_ws (wMd Z mo pl 0 sz ea tk dp lr dy ca false tp kd fr me va wo pc ht fs la ht fs la sh_2 dk_2 sk5 ++ wPl Z pl (nI N) (nI u) mn hn ha hh dz wh bg en od wi al) rfl ?_
      refine J_iload_n C iX10_daysUntilLight_52 rfl rfl ?_
      refine J_bipush 30 C iX10_daysUntilLight_53 rfl ?_
      refine J_icmple 62 C iX10_daysUntilLight_55 rfl (fun h55 => ?_) (fun h55 => absurd (nI_le (a := k) (b := 30) (by omega) (by decide)) h55)
      refine J_iload_n C iX10_daysUntilLight_62 rfl rfl ?_
      exact J_iret C E iX10_daysUntilLight_63 ⟨sk5, sh_2, dk_2, by rw [duG_some (k := k) (by omega) (by rw [hI.2.2.1]; exact Int32.le_antisymm h31 (by rw [hal9]; exact Int32.not_lt.mp (nI_pos (n := t9) (by omega)))) hI.2.2.2], rfl⟩
    · refine J_aload_n C iX10_daysUntilLight_34 rfl rfl ?_
      refine J_iconst 1 C iX10_daysUntilLight_35 rfl ?_
      refine J_cVb (As := [.int 1]) (st := []) (rc2 := (rmK 12).cells) (rs2 := (rmK 12).slots) C iX10_daysUntilLight_36 lm_X10_414 yc_X10_pass yv_X10_pass (c_X10_pass (n := 1) (o := o) (g := g) (j := j) (l0 := l0) hN okk2 (by decide) hu hS hrow hlaw hP hI.2.1) (q0 := 0) rfl rfl rfl [] [] rfl rfl (rmK_le (by omega) (by decide)) (Nat.le_of_ble_eq_true rfl) rfl rfl ?_
      rintro _ _ ⟨kn_1, sh_1, dk_1, sk_1, ht_1, fs_1, la_1, ca_1, dy_1, rfl, rfl, hdy, okk1, ft1⟩
      refine J_st (.int (ca_1 - ca5) :: []) rfl ?_
      refine J_ws (wMd Z mo pl 0 sz ea tk dp lr dy_1 ca_1 kn_1 tp kd fr me va wo pc ht_1 fs_1 la_1 ht fs la sh_1 dk_1 sk_1 ++ wPl Z pl (nI N) (nI u) mn hn ha hh dz wh bg en od wi al) rfl ?_
      refine J_pop C iX10_daysUntilLight_39 rfl ?_
      refine J_iinc ((nI k) + 1) [(3, .int ((nI k) + 1)), (2, .int ca), (1, .int dy), (0, .ref (mo 0))] C iX10_daysUntilLight_40 rfl rfl (by decide) rfl ?_
      rw [show (nI k) + 1 = nI (k + 1) from nI_add _ _]
      refine J_goto 21 C iX10_daysUntilLight_43 rfl ?_
      refine J_lvm [(3, .int (nI (k + 1))), (2, .int ca), (1, .int dy), (0, .ref (mo 0))] rfl ?_
      exact ih (kn_1, sh_1, dk_1, sk_1, ht_1, fs_1, la_1, ca_1, dy_1) (by dsimp only; exact ⟨okk1, ft1, by rw [dyN, hI.2.2.1]; exact hdy, lt_s hI.2.2.2 (fun z => h31 (by rw [hI.2.2.1] at z; rw [z]; decide))⟩)

