set_option maxRecDepth 100000 in
set_option maxHeartbeats 4000000 in
theorem c_X10_pass {Z : GZ} {l : Launch} {mo pl : Nat → Nat} {N : Nat} {th sz ea tk dp lr dy ca mn : Int32} {kn : Bool} {hn va : Nat → Int64} {ha hh dz wh bg en od wi al tp kd fr me wo pc ht fs la kh kf kl sh dk sk : Nat → Int32} {n u S : Nat} {o g j l0 : Nat → Int32} {hx c0 c1 c2 c3 : Nat → Nat} (hN : N ≤ 12) (ok : kn = true → LkOk N pc ht fs la sh dk) (hn30 : n ≤ 30) (hu : u ≤ 16) (hS : S ≤ 400) (hrow : ∀ r, r < S → RowS N (od r) (wi r) (al r) (o r) (g r) (j r)) (hlaw : ∀ k, k < u → LawN o dz bg en S k (l0 k) (c0 k) (c1 k) (c2 k) (c3 k) ∧ wh k = nI (hx k) ∧ hx k < N) (hP : Pok N pc) (hFT : FTok N fs la)  : Ct Z l yX10_pass cX10_pass 5 (some .int) (rmK 11) [.ref (mo 0), .int (nI n)] (wMd Z mo pl th sz ea tk dp lr dy ca kn tp kd fr me va wo pc ht fs la kh kf kl sh dk sk ++ wPl Z pl (nI N) (nI u) mn hn ha hh dz wh bg en od wi al) (fun v w => ∃ kn2 sh2 dk2 sk2 ht2 fs2 la2 ca2 dy2, v = some (.int (ca2 - ca)) ∧ w = (wMd Z mo pl th sz ea tk dp lr dy2 ca2 kn2 tp kd fr me va wo pc ht2 fs2 la2 kh kf kl sh2 dk2 sk2 ++ wPl Z pl (nI N) (nI u) mn hn ha hh dz wh bg en od wi al) ∧ dyN N pc o g j l0 hx c0 c1 c2 c3 u ((ht, fs, la), ca, dy) n = ((ht2, fs2, la2), ca2, dy2) ∧ (kn2 = true → LkOk N pc ht2 fs2 la2 sh2 dk2) ∧ FTok N fs2 la2) := by
  refine Ct.ofJ (own := RX10) (nm := "pass") (lv0 := [(0, .ref (mo 0)), (1, .int (nI n))]) (by decide) rfl rfl (Nat.le_of_ble_eq_true rfl) rfl (fun X hXl C E => ?_)
  subst hXl
  refine J_aload_n C iX10_pass_0 rfl rfl ?_
  refine J_get (.int ca) 0 C iX10_pass_1 gf_X10_130 rfl rfl ?_
  refine J_istore_n [(2, .int ca), (0, .ref (mo 0)), (1, .int (nI n))] C iX10_pass_4 rfl (by decide) rfl ?_
  refine J_iconst 0 C iX10_pass_5 rfl ?_
  refine J_istore_n [(3, .int 0), (2, .int ca), (0, .ref (mo 0)), (1, .int (nI n))] C iX10_pass_6 rfl (by decide) rfl ?_
  refine J_lvm [(3, .int 0), (2, .int ca), (1, .int (nI n)), (0, .ref (mo 0))] (by rfl) ?_
  refine J_forI (σ := Bool × (Nat → Int32) × (Nat → Int32) × (Nat → Int32) × (Nat → Int32) × (Nat → Int32) × (Nat → Int32) × Int32 × Int32) (fun d q => [(3, .int (nI d)), (2, .int ca), (1, .int (nI n)), (0, .ref (mo 0))]) (fun d q => (wMd Z mo pl th sz ea tk dp lr q.2.2.2.2.2.2.2.2 q.2.2.2.2.2.2.2.1 q.1 tp kd fr me va wo pc q.2.2.2.2.1 q.2.2.2.2.2.1 q.2.2.2.2.2.2.1 kh kf kl q.2.1 q.2.2.1 q.2.2.2.1 ++ wPl Z pl (nI N) (nI u) mn hn ha hh dz wh bg en od wi al)) (fun d q => (q.1 = true → LkOk N pc q.2.2.2.2.1 q.2.2.2.2.2.1 q.2.2.2.2.2.2.1 q.2.1 q.2.2.1) ∧ FTok N q.2.2.2.2.2.1 q.2.2.2.2.2.2.1 ∧ dyN N pc o g j l0 hx c0 c1 c2 c3 u ((ht, fs, la), ca, dy) d = ((q.2.2.2.2.1, q.2.2.2.2.2.1, q.2.2.2.2.2.2.1), q.2.2.2.2.2.2.2.1, q.2.2.2.2.2.2.2.2)) n 0 (kn, sh, dk, sk, ht, fs, la, ca, dy) (by omega) ⟨ok, hFT, rfl⟩ ?_ ?_
  · rintro ⟨kn5, sh5, dk5, sk5, ht5, fs5, la5, ca5, dy5⟩ hI
    dsimp only at hI ⊢
    refine J_iload_n C iX10_pass_7 rfl rfl ?_
    refine J_iload_n C iX10_pass_8 rfl rfl ?_
    refine J_icmpge 67 C iX10_pass_9 rfl (fun h9 => ?_) (fun h9 => absurd (nI_le (Nat.le_refl n) (by omega)) h9)
    refine J_aload_n C iX10_pass_67 rfl rfl ?_
    refine J_get (.int ca5) 0 C iX10_pass_68 gf_X10_130 rfl rfl ?_
    refine J_iload_n C iX10_pass_71 rfl rfl ?_
    refine J_isub C iX10_pass_72 ?_
    exact J_iret C E iX10_pass_73 ⟨kn5, sh5, dk5, sk5, ht5, fs5, la5, ca5, dy5, rfl, rfl, hI.2.2, hI.1, hI.2.1⟩
  · rintro d ⟨kn5, sh5, dk5, sk5, ht5, fs5, la5, ca5, dy5⟩ hd0 hd hI ih
    dsimp only at hI ⊢
    refine J_iload_n C iX10_pass_7 rfl rfl ?_
    refine J_iload_n C iX10_pass_8 rfl rfl ?_
    refine J_icmpge 67 C iX10_pass_9 rfl (fun h9 => absurd h9 (nI_ge hd (by omega))) (fun h9 => ?_)
    refine J_iconst 0 C iX10_pass_12 rfl ?_
    refine J_istore [(4, .int 0), (3, .int (nI d)), (2, .int ca), (1, .int (nI n)), (0, .ref (mo 0))] C iX10_pass_13 (by decide) rfl ?_
    refine J_lvm [(4, .int 0), (3, .int (nI d)), (2, .int ca), (1, .int (nI n)), (0, .ref (mo 0))] (by rfl) ?_
    refine J_forI (σ := Bool × (Nat → Int32) × (Nat → Int32) × (Nat → Int32) × (Nat → Int32) × (Nat → Int32) × (Nat → Int32) × Int32) (fun k q => [(4, .int (nI k)), (3, .int (nI d)), (2, .int ca), (1, .int (nI n)), (0, .ref (mo 0))]) (fun k q => (wMd Z mo pl th sz ea tk dp lr dy5 q.2.2.2.2.2.2.2 q.1 tp kd fr me va wo pc q.2.2.2.2.1 q.2.2.2.2.2.1 q.2.2.2.2.2.2.1 kh kf kl q.2.1 q.2.2.1 q.2.2.2.1 ++ wPl Z pl (nI N) (nI u) mn hn ha hh dz wh bg en od wi al)) (fun k q => (q.1 = true → LkOk N pc q.2.2.2.2.1 q.2.2.2.2.2.1 q.2.2.2.2.2.2.1 q.2.1 q.2.2.1) ∧ FTok N q.2.2.2.2.2.1 q.2.2.2.2.2.2.1 ∧ dayL N dy5 pc o g j l0 hx c0 c1 c2 c3 k (u - k) ((q.2.2.2.2.1, q.2.2.2.2.2.1, q.2.2.2.2.2.2.1), q.2.2.2.2.2.2.2) = dayL N dy5 pc o g j l0 hx c0 c1 c2 c3 0 u ((ht5, fs5, la5), ca5)) u 0 (kn5, sh5, dk5, sk5, ht5, fs5, la5, ca5) (by omega) ⟨hI.1, hI.2.1, rfl⟩ ?_ ?_
    · rintro ⟨kn6, sh6, dk6, sk6, ht6, fs6, la6, ca6⟩ hJ
      dsimp only at hJ ⊢
      refine J_iload C iX10_pass_15 rfl ?_
      refine J_aload_n C iX10_pass_17 rfl rfl ?_
      refine J_get (.ref (pl 0)) 0 C iX10_pass_18 gf_X10_20 rfl rfl ?_
      refine J_get (.int (nI u)) 17 C iX10_pass_21 gf_X10_179 rfl rfl ?_
      refine J_icmpge 51 C iX10_pass_24 rfl (fun h24 => ?_) (fun h24 => absurd (nI_le (Nat.le_refl u) (by omega)) h24)
      refine J_aload_n C iX10_pass_51 rfl rfl ?_
      refine J_dup C iX10_pass_52 rfl ?_
      refine J_get (.int dy5) 0 C iX10_pass_53 gf_X10_127 rfl rfl ?_
      refine J_iconst 1 C iX10_pass_56 rfl ?_
      refine J_iadd C iX10_pass_57 ?_
      refine J_put (wMd Z mo pl th sz ea tk dp lr (dy5 + 1) ca6 kn6 tp kd fr me va wo pc ht6 fs6 la6 kh kf kl sh6 dk6 sk6 ++ wPl Z pl (nI N) (nI u) mn hn ha hh dz wh bg en od wi al) 0 C iX10_pass_58 pf_X10_127 rfl rfl rfl (Nat.le_of_ble_eq_true rfl) rfl ?_
      refine J_iinc ((nI d) + 1) [(3, .int ((nI d) + 1)), (4, .int (nI u)), (2, .int ca), (1, .int (nI n)), (0, .ref (mo 0))] C iX10_pass_61 rfl rfl (by decide) rfl ?_
      rw [show (nI d) + 1 = nI (d + 1) from nI_add _ _]
      refine J_goto 7 C iX10_pass_64 rfl ?_
      refine J_lvm [(3, .int (nI (d + 1))), (2, .int ca), (1, .int (nI n)), (0, .ref (mo 0))] rfl ?_
      exact ih (kn6, sh6, dk6, sk6, ht6, fs6, la6, ca6, dy5 + 1) (by dsimp only; exact ⟨hJ.1, hJ.2.1, by rw [dyN, hI.2.2, dyS]; dsimp only; rw [← hJ.2.2, Nat.sub_self, dayL]⟩)
    · rintro k ⟨kn6, sh6, dk6, sk6, ht6, fs6, la6, ca6⟩ hk0 hk hJ ihj
      dsimp only at hJ ⊢
      refine J_iload C iX10_pass_15 rfl ?_
      refine J_aload_n C iX10_pass_17 rfl rfl ?_
      refine J_get (.ref (pl 0)) 0 C iX10_pass_18 gf_X10_20 rfl rfl ?_
      refine J_get (.int (nI u)) 17 C iX10_pass_21 gf_X10_179 rfl rfl ?_
      refine J_icmpge 51 C iX10_pass_24 rfl (fun h24 => absurd h24 (nI_ge hk (by omega))) (fun h24 => ?_)
      refine J_aload_n C iX10_pass_27 rfl rfl ?_
      refine J_dup C iX10_pass_28 rfl ?_
      refine J_get (.int ca6) 0 C iX10_pass_29 gf_X10_130 rfl rfl ?_
      refine J_aload_n C iX10_pass_32 rfl rfl ?_
      refine J_iload C iX10_pass_33 rfl ?_
      refine J_cVb (As := [.int (nI k)]) (st := .int ca6 :: .ref (mo 0) :: []) (rc2 := (rmK 11).cells) (rs2 := (rmK 11).slots) C iX10_pass_35 lm_X10_182 yc_X10_isCarriedOut yv_X10_isCarriedOut (c_X10_isCarriedOut hN hJ.1 (by omega) hS hrow (hlaw k hk).1 (hlaw k hk).2.1 (hlaw k hk).2.2 hP hJ.2.1) (q0 := 0) rfl rfl rfl [] [] rfl rfl (rmK_le (by omega) (by decide)) (Nat.le_of_ble_eq_true rfl) rfl rfl ?_
      rintro _ _ ⟨kn_1, sh_1, dk_1, sk_1, ht_1, fs_1, la_1, rfl, rfl, he1, ok1_, ft1⟩
      refine J_st (.int (b2i (carF (lfG N dy5 pc ht6 fs6 la6) o g j ht6 fs6 la6 (l0 k) (hx k) (c0 k) (c1 k) (c2 k) (c3 k)).1) :: .int ca6 :: .ref (mo 0) :: []) rfl ?_
      refine J_ws (wMd Z mo pl th sz ea tk dp lr dy5 ca6 kn_1 tp kd fr me va wo pc ht_1 fs_1 la_1 kh kf kl sh_1 dk_1 sk_1 ++ wPl Z pl (nI N) (nI u) mn hn ha hh dz wh bg en od wi al) rfl ?_
      refine J_cSp (As := [.int (b2i (carF (lfG N dy5 pc ht6 fs6 la6) o g j ht6 fs6 la6 (l0 k) (hx k) (c0 k) (c1 k) (c2 k) (c3 k)).1)]) (st := .int ca6 :: .ref (mo 0) :: []) C iX10_pass_38 lm_X10_103 yc_X10_one ys_X10_one (c_X10_one (b := (carF (lfG N dy5 pc ht6 fs6 la6) o g j ht6 fs6 la6 (l0 k) (hx k) (c0 k) (c1 k) (c2 k) (c3 k)).1)) rfl (rmK_le (by omega) (by decide)) (Nat.le_of_ble_eq_true rfl) ⟨rfl, rfl⟩ ?_
      rintro _ rfl
      refine J_st (.int (b2i ((carF (lfG N dy5 pc ht6 fs6 la6) o g j ht6 fs6 la6 (l0 k) (hx k) (c0 k) (c1 k) (c2 k) (c3 k)).1)) :: .int ca6 :: .ref (mo 0) :: []) rfl ?_
      refine J_iadd C iX10_pass_41 ?_
      refine J_put (wMd Z mo pl th sz ea tk dp lr dy5 (ca6 + (b2i ((carF (lfG N dy5 pc ht6 fs6 la6) o g j ht6 fs6 la6 (l0 k) (hx k) (c0 k) (c1 k) (c2 k) (c3 k)).1))) kn_1 tp kd fr me va wo pc ht_1 fs_1 la_1 kh kf kl sh_1 dk_1 sk_1 ++ wPl Z pl (nI N) (nI u) mn hn ha hh dz wh bg en od wi al) 0 C iX10_pass_42 pf_X10_130 rfl rfl rfl (Nat.le_of_ble_eq_true rfl) rfl ?_
      refine J_iinc ((nI k) + 1) [(4, .int ((nI k) + 1)), (3, .int (nI d)), (2, .int ca), (1, .int (nI n)), (0, .ref (mo 0))] C iX10_pass_45 rfl rfl (by decide) rfl ?_
      rw [show (nI k) + 1 = nI (k + 1) from nI_add _ _]
      refine J_goto 15 C iX10_pass_48 rfl ?_
      refine J_lvm [(4, .int (nI (k + 1))), (3, .int (nI d)), (2, .int ca), (1, .int (nI n)), (0, .ref (mo 0))] rfl ?_
      exact ihj (kn_1, sh_1, dk_1, sk_1, ht_1, fs_1, la_1, ca6 + (b2i ((carF (lfG N dy5 pc ht6 fs6 la6) o g j ht6 fs6 la6 (l0 k) (hx k) (c0 k) (c1 k) (c2 k) (c3 k)).1))) (by dsimp only; exact ⟨ok1_, ft1, by rw [← hJ.2.2, show u - k = (u - (k + 1)) + 1 by omega, dayL, carS]; dsimp only; rw [he1, ca_one]⟩)

