set_option maxRecDepth 100000 in
set_option maxHeartbeats 4000000 in
theorem sum_b0 {Z : GZ} {X : CX} {Q : State → Prop} {mo pl : Nat → Nat} {N : Nat} {th sz ea tk dp lr dy ca ls mn : Int32} {hn va : Nat → Int64} {ha hh dz wh bg en od wi al tp kd fr me wo pc ht fs la kh kf kl : Nat → Int32} {y x s0 s1 k : Nat} {o g j : Nat → Int32} {b : Bool} {kn5 : Bool} {sh5 dk5 sk5 : Nat → Int32} {xs5 : List Int32} {ts5 t2 : List Bool} (C : Cx Z X cX10_sum 6 RX10) (hN : N ≤ 12) (hy : y < 16) (hx : x < 3) (hk0 : s0 ≤ k) (hk : k < s1) (h400 : s1 ≤ 400) (hI : (kn5 = true → LkOk N pc ht fs la sh5 dk5) ∧ SkL sk5 xs5 ∧ TyL ts5 xs5 ∧ xs5.length + s0 ≤ k ∧ (s0 < s1 → tyR o k (s1 - k) ts5 = some [b]) ∧ evL (lfI N dy pc ht fs la) o g j k (s1 - k) xs5 = evL (lfI N dy pc ht fs la) o g j s0 (s1 - s0) []) (ho : o k = nI 0) (hod : od k = omN 0) (r0 : 0 = 0 → wi k = g k) (rn : (0 = 3 ∨ 0 = 4 ∨ 0 = 5 ∨ 0 = 6 ∨ 0 = 7) → wi k = g k ∧ ∃ h, h < N ∧ g k = nI h) (r6 : 0 = 6 → al k = j k ∧ ∃ h, h < N ∧ j k = nI h) (hty1 : tyC 0 ts5 = some t2) (hty2 : tyR o (k + 1) (s1 - (k + 1)) t2 = some [b]) (ih : ∀ q : Bool × (Nat → Int32) × (Nat → Int32) × (Nat → Int32) × (List Int32) × (List Bool), ((q.1 = true → LkOk N pc ht fs la q.2.1 q.2.2.1) ∧ SkL q.2.2.2.1 q.2.2.2.2.1 ∧ TyL q.2.2.2.2.2 q.2.2.2.2.1 ∧ q.2.2.2.2.1.length + s0 ≤ (k + 1) ∧ (s0 < s1 → tyR o (k + 1) (s1 - (k + 1)) q.2.2.2.2.2 = some [b]) ∧ evL (lfI N dy pc ht fs la) o g j (k + 1) (s1 - (k + 1)) q.2.2.2.2.1 = evL (lfI N dy pc ht fs la) o g j s0 (s1 - s0) []) → Jd Z X (rmK 8) 6 Q (rmK 8).cells (rmK 8).slots 17 [(3, .int (nI q.2.2.2.2.1.length)), (4, .int (nI (k + 1))), (0, .ref (mo 0)), (1, .int (nI y)), (2, .int (nI x))] [] (wMd Z mo pl th sz ea tk dp lr dy ca q.1 tp kd fr me va wo pc ht fs la kh kf kl q.2.1 q.2.2.1 q.2.2.2.1 ++ wPl Z pl (nI N) ls mn hn ha hh dz wh bg en od wi al)) : Jd Z X (rmK 8) 6 Q (rmK 8).cells (rmK 8).slots 35 [(3, .int (nI xs5.length)), (4, .int (nI k)), (0, .ref (mo 0)), (1, .int (nI y)), (2, .int (nI x))] [] (wMd Z mo pl th sz ea tk dp lr dy ca kn5 tp kd fr me va wo pc ht fs la kh kf kl sh5 dk5 sk5 ++ wPl Z pl (nI N) ls mn hn ha hh dz wh bg en od wi al) := by
  obtain rfl : t2 = false :: ts5 := (Option.some.inj hty1).symm
  have hl9 : xs5.length < 400 := by have := hI.2.2.2.1; omega
  refine J_aload_n C iX10_sum_35 rfl rfl ?_
  refine J_get (.ref (pl 0)) 0 C iX10_sum_36 gf_X10_20 rfl rfl ?_
  refine J_get (.ref (pl 8)) 17 C iX10_sum_39 gf_X10_198 rfl rfl ?_
  refine J_iload C iX10_sum_42 rfl ?_
  refine J_iald 25 C iX10_sum_44 rfl (vp_in_nI (n := k) (by omega) (by decide)) ?_
  rw [nI_clamp (n := k) (by omega)]
  refine J_istore [(5, .int (od k)), (3, .int (nI xs5.length)), (4, .int (nI k)), (0, .ref (mo 0)), (1, .int (nI y)), (2, .int (nI x))] C iX10_sum_45 (by decide) rfl ?_
  refine J_lvm [(5, .int 100), (3, .int (nI xs5.length)), (4, .int (nI k)), (0, .ref (mo 0)), (1, .int (nI y)), (2, .int (nI x))] (by rw [hod]; rfl) ?_
  refine J_iload C iX10_sum_47 rfl ?_
  refine J_cSp (As := [.int 100]) (st := []) C iX10_sum_49 lm_X10_201 yc_X10_isAsked ys_X10_isAsked (c_X10_isAsked (x := 100)) rfl (rmK_le (by omega) (by decide)) (Nat.le_of_ble_eq_true rfl) ⟨rfl, rfl⟩ ?_
  rintro _ rfl
  refine J_st (.int (b2i (askB 100)) :: []) rfl ?_
  refine J_ifeqb 93 C iX10_sum_52 rfl (fun h52 => absurd (h52.symm.trans (by decide : askB 100 = true)) (by decide)) (fun h52 => ?_)
  refine J_aload_n C iX10_sum_55 rfl rfl ?_
  refine J_get (.ref (mo 16)) 0 C iX10_sum_56 gf_X10_67 rfl rfl ?_
  refine J_iload_n C iX10_sum_59 rfl rfl ?_
  refine J_aload_n C iX10_sum_60 rfl rfl ?_
  refine J_iload C iX10_sum_61 rfl ?_
  refine J_aload_n C iX10_sum_63 rfl rfl ?_
  refine J_get (.ref (pl 0)) 0 C iX10_sum_64 gf_X10_20 rfl rfl ?_
  refine J_get (.ref (pl 9)) 17 C iX10_sum_67 gf_X10_204 rfl rfl ?_
  refine J_iload C iX10_sum_70 rfl ?_
  refine J_iald 26 C iX10_sum_72 rfl (vp_in_nI (n := k) (by omega) (by decide)) ?_
  rw [nI_clamp (n := k) (by omega)]
  refine J_aload_n C iX10_sum_73 rfl rfl ?_
  refine J_get (.ref (pl 0)) 0 C iX10_sum_74 gf_X10_20 rfl rfl ?_
  refine J_get (.ref (pl 10)) 17 C iX10_sum_77 gf_X10_207 rfl rfl ?_
  refine J_iload C iX10_sum_80 rfl ?_
  refine J_iald 27 C iX10_sum_82 rfl (vp_in_nI (n := k) (by omega) (by decide)) ?_
  rw [nI_clamp (n := k) (by omega)]
  refine J_cVb (As := [.int 100, .int (wi k), .int (al k)]) (st := .int (nI xs5.length) :: .ref (mo 16) :: []) (rc2 := (rmK 8).cells) (rs2 := (rmK 8).slots) C iX10_sum_83 lm_X10_210 yc_X10_ask yv_X10_ask (c_X10_ask_0 hN hI.1 (q := wi k) (r := al k)) (q0 := 0) rfl rfl rfl [] [] rfl rfl (rmK_le (by omega) (by decide)) (Nat.le_of_ble_eq_true rfl) rfl rfl ?_
  rintro _ _ ⟨kn_1, sh_1, dk_1, rfl, rfl, okk1⟩
  refine J_st (.int (lfM N dy pc ht fs la 0 (wi k) (al k)) :: .int (nI xs5.length) :: .ref (mo 16) :: []) rfl ?_
  refine J_ws (wMd Z mo pl th sz ea tk dp lr dy ca kn_1 tp kd fr me va wo pc ht fs la kh kf kl sh_1 dk_1 sk5 ++ wPl Z pl (nI N) ls mn hn ha hh dz wh bg en od wi al) rfl ?_
  have hval : (lfI N dy pc ht fs la) (nI 0) (g k) (j k) = lfM N dy pc ht fs la 0 (wi k) (al k) := by rw [lfI_nI (by decide), r0 rfl]; simp only [lfM]
  refine J_iast (wMd Z mo pl th sz ea tk dp lr dy ca kn_1 tp kd fr me va wo pc ht fs la kh kf kl sh_1 dk_1 (upd sk5 (nI xs5.length).toNatClampNeg (lfM N dy pc ht fs la 0 (wi k) (al k))) ++ wPl Z pl (nI N) ls mn hn ha hh dz wh bg en od wi al) 16 C iX10_sum_86 rfl (vp_in_nI (n := xs5.length) (by omega) (by decide)) rfl ?_
  rw [nI_clamp (n := xs5.length) (by omega)]
  refine J_iinc ((nI xs5.length) + 1) [(3, .int ((nI xs5.length) + 1)), (5, .int 100), (4, .int (nI k)), (0, .ref (mo 0)), (1, .int (nI y)), (2, .int (nI x))] C iX10_sum_87 rfl rfl (by decide) rfl ?_
  rw [show (nI xs5.length) + 1 = nI (xs5.length + 1) from nI_add _ _]
  refine J_goto 178 C iX10_sum_90 rfl ?_
  refine J_iinc ((nI k) + 1) [(4, .int ((nI k) + 1)), (3, .int (nI (xs5.length + 1))), (5, .int 100), (0, .ref (mo 0)), (1, .int (nI y)), (2, .int (nI x))] C iX10_sum_178 rfl rfl (by decide) rfl ?_
  rw [show (nI k) + 1 = nI (k + 1) from nI_add _ _]
  refine J_goto 17 C iX10_sum_181 rfl ?_
  refine J_lvm [(3, .int (nI (xs5.length + 1))), (4, .int (nI (k + 1))), (0, .ref (mo 0)), (1, .int (nI y)), (2, .int (nI x))] rfl ?_
  exact ih (kn_1, sh_1, dk_1, upd sk5 xs5.length (lfM N dy pc ht fs la 0 (wi k) (al k)), (lfM N dy pc ht fs la 0 (wi k) (al k)) :: xs5, false :: ts5) (by dsimp only; exact ⟨okk1, ⟨upd_s, skl_upd (Nat.le_refl _) hI.2.1⟩, ⟨(fun q => absurd q (by decide)), hI.2.2.1⟩, by simp only [List.length_cons]; omega, fun _ => hty2, by rw [← hI.2.2.2.2.2, evL_s hk, ho, evS_leaf (by decide) (by omega), hval]⟩)

set_option maxRecDepth 100000 in
set_option maxHeartbeats 4000000 in
theorem sum_b1 {Z : GZ} {X : CX} {Q : State → Prop} {mo pl : Nat → Nat} {N : Nat} {th sz ea tk dp lr dy ca ls mn : Int32} {hn va : Nat → Int64} {ha hh dz wh bg en od wi al tp kd fr me wo pc ht fs la kh kf kl : Nat → Int32} {y x s0 s1 k : Nat} {o g j : Nat → Int32} {b : Bool} {kn5 : Bool} {sh5 dk5 sk5 : Nat → Int32} {xs5 : List Int32} {ts5 t2 : List Bool} (C : Cx Z X cX10_sum 6 RX10) (hN : N ≤ 12) (hy : y < 16) (hx : x < 3) (hk0 : s0 ≤ k) (hk : k < s1) (h400 : s1 ≤ 400) (hI : (kn5 = true → LkOk N pc ht fs la sh5 dk5) ∧ SkL sk5 xs5 ∧ TyL ts5 xs5 ∧ xs5.length + s0 ≤ k ∧ (s0 < s1 → tyR o k (s1 - k) ts5 = some [b]) ∧ evL (lfI N dy pc ht fs la) o g j k (s1 - k) xs5 = evL (lfI N dy pc ht fs la) o g j s0 (s1 - s0) []) (ho : o k = nI 1) (hod : od k = omN 1) (r0 : 1 = 0 → wi k = g k) (rn : (1 = 3 ∨ 1 = 4 ∨ 1 = 5 ∨ 1 = 6 ∨ 1 = 7) → wi k = g k ∧ ∃ h, h < N ∧ g k = nI h) (r6 : 1 = 6 → al k = j k ∧ ∃ h, h < N ∧ j k = nI h) (hty1 : tyC 1 ts5 = some t2) (hty2 : tyR o (k + 1) (s1 - (k + 1)) t2 = some [b]) (ih : ∀ q : Bool × (Nat → Int32) × (Nat → Int32) × (Nat → Int32) × (List Int32) × (List Bool), ((q.1 = true → LkOk N pc ht fs la q.2.1 q.2.2.1) ∧ SkL q.2.2.2.1 q.2.2.2.2.1 ∧ TyL q.2.2.2.2.2 q.2.2.2.2.1 ∧ q.2.2.2.2.1.length + s0 ≤ (k + 1) ∧ (s0 < s1 → tyR o (k + 1) (s1 - (k + 1)) q.2.2.2.2.2 = some [b]) ∧ evL (lfI N dy pc ht fs la) o g j (k + 1) (s1 - (k + 1)) q.2.2.2.2.1 = evL (lfI N dy pc ht fs la) o g j s0 (s1 - s0) []) → Jd Z X (rmK 8) 6 Q (rmK 8).cells (rmK 8).slots 17 [(3, .int (nI q.2.2.2.2.1.length)), (4, .int (nI (k + 1))), (0, .ref (mo 0)), (1, .int (nI y)), (2, .int (nI x))] [] (wMd Z mo pl th sz ea tk dp lr dy ca q.1 tp kd fr me va wo pc ht fs la kh kf kl q.2.1 q.2.2.1 q.2.2.2.1 ++ wPl Z pl (nI N) ls mn hn ha hh dz wh bg en od wi al)) : Jd Z X (rmK 8) 6 Q (rmK 8).cells (rmK 8).slots 35 [(3, .int (nI xs5.length)), (4, .int (nI k)), (0, .ref (mo 0)), (1, .int (nI y)), (2, .int (nI x))] [] (wMd Z mo pl th sz ea tk dp lr dy ca kn5 tp kd fr me va wo pc ht fs la kh kf kl sh5 dk5 sk5 ++ wPl Z pl (nI N) ls mn hn ha hh dz wh bg en od wi al) := by
  obtain rfl : t2 = false :: ts5 := (Option.some.inj hty1).symm
  have hl9 : xs5.length < 400 := by have := hI.2.2.2.1; omega
  refine J_aload_n C iX10_sum_35 rfl rfl ?_
  refine J_get (.ref (pl 0)) 0 C iX10_sum_36 gf_X10_20 rfl rfl ?_
  refine J_get (.ref (pl 8)) 17 C iX10_sum_39 gf_X10_198 rfl rfl ?_
  refine J_iload C iX10_sum_42 rfl ?_
  refine J_iald 25 C iX10_sum_44 rfl (vp_in_nI (n := k) (by omega) (by decide)) ?_
  rw [nI_clamp (n := k) (by omega)]
  refine J_istore [(5, .int (od k)), (3, .int (nI xs5.length)), (4, .int (nI k)), (0, .ref (mo 0)), (1, .int (nI y)), (2, .int (nI x))] C iX10_sum_45 (by decide) rfl ?_
  refine J_lvm [(5, .int 11), (3, .int (nI xs5.length)), (4, .int (nI k)), (0, .ref (mo 0)), (1, .int (nI y)), (2, .int (nI x))] (by rw [hod]; rfl) ?_
  refine J_iload C iX10_sum_47 rfl ?_
  refine J_cSp (As := [.int 11]) (st := []) C iX10_sum_49 lm_X10_201 yc_X10_isAsked ys_X10_isAsked (c_X10_isAsked (x := 11)) rfl (rmK_le (by omega) (by decide)) (Nat.le_of_ble_eq_true rfl) ⟨rfl, rfl⟩ ?_
  rintro _ rfl
  refine J_st (.int (b2i (askB 11)) :: []) rfl ?_
  refine J_ifeqb 93 C iX10_sum_52 rfl (fun h52 => absurd (h52.symm.trans (by decide : askB 11 = true)) (by decide)) (fun h52 => ?_)
  refine J_aload_n C iX10_sum_55 rfl rfl ?_
  refine J_get (.ref (mo 16)) 0 C iX10_sum_56 gf_X10_67 rfl rfl ?_
  refine J_iload_n C iX10_sum_59 rfl rfl ?_
  refine J_aload_n C iX10_sum_60 rfl rfl ?_
  refine J_iload C iX10_sum_61 rfl ?_
  refine J_aload_n C iX10_sum_63 rfl rfl ?_
  refine J_get (.ref (pl 0)) 0 C iX10_sum_64 gf_X10_20 rfl rfl ?_
  refine J_get (.ref (pl 9)) 17 C iX10_sum_67 gf_X10_204 rfl rfl ?_
  refine J_iload C iX10_sum_70 rfl ?_
  refine J_iald 26 C iX10_sum_72 rfl (vp_in_nI (n := k) (by omega) (by decide)) ?_
  rw [nI_clamp (n := k) (by omega)]
  refine J_aload_n C iX10_sum_73 rfl rfl ?_
  refine J_get (.ref (pl 0)) 0 C iX10_sum_74 gf_X10_20 rfl rfl ?_
  refine J_get (.ref (pl 10)) 17 C iX10_sum_77 gf_X10_207 rfl rfl ?_
  refine J_iload C iX10_sum_80 rfl ?_
  refine J_iald 27 C iX10_sum_82 rfl (vp_in_nI (n := k) (by omega) (by decide)) ?_
  rw [nI_clamp (n := k) (by omega)]
  refine J_cVb (As := [.int 11, .int (wi k), .int (al k)]) (st := .int (nI xs5.length) :: .ref (mo 16) :: []) (rc2 := (rmK 8).cells) (rs2 := (rmK 8).slots) C iX10_sum_83 lm_X10_210 yc_X10_ask yv_X10_ask (c_X10_ask_1 hN hI.1 (q := wi k) (r := al k)) (q0 := 0) rfl rfl rfl [] [] rfl rfl (rmK_le (by omega) (by decide)) (Nat.le_of_ble_eq_true rfl) rfl rfl ?_
  rintro _ _ ⟨kn_1, sh_1, dk_1, rfl, rfl, okk1⟩
  refine J_st (.int (lfM N dy pc ht fs la 1 (wi k) (al k)) :: .int (nI xs5.length) :: .ref (mo 16) :: []) rfl ?_
  refine J_ws (wMd Z mo pl th sz ea tk dp lr dy ca kn_1 tp kd fr me va wo pc ht fs la kh kf kl sh_1 dk_1 sk5 ++ wPl Z pl (nI N) ls mn hn ha hh dz wh bg en od wi al) rfl ?_
  have hval : (lfI N dy pc ht fs la) (nI 1) (g k) (j k) = lfM N dy pc ht fs la 1 (wi k) (al k) := (lfI_nI (by decide)).trans lfM_1
  refine J_iast (wMd Z mo pl th sz ea tk dp lr dy ca kn_1 tp kd fr me va wo pc ht fs la kh kf kl sh_1 dk_1 (upd sk5 (nI xs5.length).toNatClampNeg (lfM N dy pc ht fs la 1 (wi k) (al k))) ++ wPl Z pl (nI N) ls mn hn ha hh dz wh bg en od wi al) 16 C iX10_sum_86 rfl (vp_in_nI (n := xs5.length) (by omega) (by decide)) rfl ?_
  rw [nI_clamp (n := xs5.length) (by omega)]
  refine J_iinc ((nI xs5.length) + 1) [(3, .int ((nI xs5.length) + 1)), (5, .int 11), (4, .int (nI k)), (0, .ref (mo 0)), (1, .int (nI y)), (2, .int (nI x))] C iX10_sum_87 rfl rfl (by decide) rfl ?_
  rw [show (nI xs5.length) + 1 = nI (xs5.length + 1) from nI_add _ _]
  refine J_goto 178 C iX10_sum_90 rfl ?_
  refine J_iinc ((nI k) + 1) [(4, .int ((nI k) + 1)), (3, .int (nI (xs5.length + 1))), (5, .int 11), (0, .ref (mo 0)), (1, .int (nI y)), (2, .int (nI x))] C iX10_sum_178 rfl rfl (by decide) rfl ?_
  rw [show (nI k) + 1 = nI (k + 1) from nI_add _ _]
  refine J_goto 17 C iX10_sum_181 rfl ?_
  refine J_lvm [(3, .int (nI (xs5.length + 1))), (4, .int (nI (k + 1))), (0, .ref (mo 0)), (1, .int (nI y)), (2, .int (nI x))] rfl ?_
  exact ih (kn_1, sh_1, dk_1, upd sk5 xs5.length (lfM N dy pc ht fs la 1 (wi k) (al k)), (lfM N dy pc ht fs la 1 (wi k) (al k)) :: xs5, false :: ts5) (by dsimp only; exact ⟨okk1, ⟨upd_s, skl_upd (Nat.le_refl _) hI.2.1⟩, ⟨(fun q => absurd q (by decide)), hI.2.2.1⟩, by simp only [List.length_cons]; omega, fun _ => hty2, by rw [← hI.2.2.2.2.2, evL_s hk, ho, evS_leaf (by decide) (by omega), hval]⟩)

set_option maxRecDepth 100000 in
set_option maxHeartbeats 4000000 in
theorem sum_b2 {Z : GZ} {X : CX} {Q : State → Prop} {mo pl : Nat → Nat} {N : Nat} {th sz ea tk dp lr dy ca ls mn : Int32} {hn va : Nat → Int64} {ha hh dz wh bg en od wi al tp kd fr me wo pc ht fs la kh kf kl : Nat → Int32} {y x s0 s1 k : Nat} {o g j : Nat → Int32} {b : Bool} {kn5 : Bool} {sh5 dk5 sk5 : Nat → Int32} {xs5 : List Int32} {ts5 t2 : List Bool} (C : Cx Z X cX10_sum 6 RX10) (hN : N ≤ 12) (hy : y < 16) (hx : x < 3) (hk0 : s0 ≤ k) (hk : k < s1) (h400 : s1 ≤ 400) (hI : (kn5 = true → LkOk N pc ht fs la sh5 dk5) ∧ SkL sk5 xs5 ∧ TyL ts5 xs5 ∧ xs5.length + s0 ≤ k ∧ (s0 < s1 → tyR o k (s1 - k) ts5 = some [b]) ∧ evL (lfI N dy pc ht fs la) o g j k (s1 - k) xs5 = evL (lfI N dy pc ht fs la) o g j s0 (s1 - s0) []) (ho : o k = nI 2) (hod : od k = omN 2) (r0 : 2 = 0 → wi k = g k) (rn : (2 = 3 ∨ 2 = 4 ∨ 2 = 5 ∨ 2 = 6 ∨ 2 = 7) → wi k = g k ∧ ∃ h, h < N ∧ g k = nI h) (r6 : 2 = 6 → al k = j k ∧ ∃ h, h < N ∧ j k = nI h) (hty1 : tyC 2 ts5 = some t2) (hty2 : tyR o (k + 1) (s1 - (k + 1)) t2 = some [b]) (ih : ∀ q : Bool × (Nat → Int32) × (Nat → Int32) × (Nat → Int32) × (List Int32) × (List Bool), ((q.1 = true → LkOk N pc ht fs la q.2.1 q.2.2.1) ∧ SkL q.2.2.2.1 q.2.2.2.2.1 ∧ TyL q.2.2.2.2.2 q.2.2.2.2.1 ∧ q.2.2.2.2.1.length + s0 ≤ (k + 1) ∧ (s0 < s1 → tyR o (k + 1) (s1 - (k + 1)) q.2.2.2.2.2 = some [b]) ∧ evL (lfI N dy pc ht fs la) o g j (k + 1) (s1 - (k + 1)) q.2.2.2.2.1 = evL (lfI N dy pc ht fs la) o g j s0 (s1 - s0) []) → Jd Z X (rmK 8) 6 Q (rmK 8).cells (rmK 8).slots 17 [(3, .int (nI q.2.2.2.2.1.length)), (4, .int (nI (k + 1))), (0, .ref (mo 0)), (1, .int (nI y)), (2, .int (nI x))] [] (wMd Z mo pl th sz ea tk dp lr dy ca q.1 tp kd fr me va wo pc ht fs la kh kf kl q.2.1 q.2.2.1 q.2.2.2.1 ++ wPl Z pl (nI N) ls mn hn ha hh dz wh bg en od wi al)) : Jd Z X (rmK 8) 6 Q (rmK 8).cells (rmK 8).slots 35 [(3, .int (nI xs5.length)), (4, .int (nI k)), (0, .ref (mo 0)), (1, .int (nI y)), (2, .int (nI x))] [] (wMd Z mo pl th sz ea tk dp lr dy ca kn5 tp kd fr me va wo pc ht fs la kh kf kl sh5 dk5 sk5 ++ wPl Z pl (nI N) ls mn hn ha hh dz wh bg en od wi al) := by
  obtain rfl : t2 = false :: ts5 := (Option.some.inj hty1).symm
  have hl9 : xs5.length < 400 := by have := hI.2.2.2.1; omega
  refine J_aload_n C iX10_sum_35 rfl rfl ?_
  refine J_get (.ref (pl 0)) 0 C iX10_sum_36 gf_X10_20 rfl rfl ?_
  refine J_get (.ref (pl 8)) 17 C iX10_sum_39 gf_X10_198 rfl rfl ?_
  refine J_iload C iX10_sum_42 rfl ?_
  refine J_iald 25 C iX10_sum_44 rfl (vp_in_nI (n := k) (by omega) (by decide)) ?_
  rw [nI_clamp (n := k) (by omega)]
  refine J_istore [(5, .int (od k)), (3, .int (nI xs5.length)), (4, .int (nI k)), (0, .ref (mo 0)), (1, .int (nI y)), (2, .int (nI x))] C iX10_sum_45 (by decide) rfl ?_
  refine J_lvm [(5, .int 15), (3, .int (nI xs5.length)), (4, .int (nI k)), (0, .ref (mo 0)), (1, .int (nI y)), (2, .int (nI x))] (by rw [hod]; rfl) ?_
  refine J_iload C iX10_sum_47 rfl ?_
  refine J_cSp (As := [.int 15]) (st := []) C iX10_sum_49 lm_X10_201 yc_X10_isAsked ys_X10_isAsked (c_X10_isAsked (x := 15)) rfl (rmK_le (by omega) (by decide)) (Nat.le_of_ble_eq_true rfl) ⟨rfl, rfl⟩ ?_
  rintro _ rfl
  refine J_st (.int (b2i (askB 15)) :: []) rfl ?_
  refine J_ifeqb 93 C iX10_sum_52 rfl (fun h52 => absurd (h52.symm.trans (by decide : askB 15 = true)) (by decide)) (fun h52 => ?_)
  refine J_aload_n C iX10_sum_55 rfl rfl ?_
  refine J_get (.ref (mo 16)) 0 C iX10_sum_56 gf_X10_67 rfl rfl ?_
  refine J_iload_n C iX10_sum_59 rfl rfl ?_
  refine J_aload_n C iX10_sum_60 rfl rfl ?_
  refine J_iload C iX10_sum_61 rfl ?_
  refine J_aload_n C iX10_sum_63 rfl rfl ?_
  refine J_get (.ref (pl 0)) 0 C iX10_sum_64 gf_X10_20 rfl rfl ?_
  refine J_get (.ref (pl 9)) 17 C iX10_sum_67 gf_X10_204 rfl rfl ?_
  refine J_iload C iX10_sum_70 rfl ?_
  refine J_iald 26 C iX10_sum_72 rfl (vp_in_nI (n := k) (by omega) (by decide)) ?_
  rw [nI_clamp (n := k) (by omega)]
  refine J_aload_n C iX10_sum_73 rfl rfl ?_
  refine J_get (.ref (pl 0)) 0 C iX10_sum_74 gf_X10_20 rfl rfl ?_
  refine J_get (.ref (pl 10)) 17 C iX10_sum_77 gf_X10_207 rfl rfl ?_
  refine J_iload C iX10_sum_80 rfl ?_
  refine J_iald 27 C iX10_sum_82 rfl (vp_in_nI (n := k) (by omega) (by decide)) ?_
  rw [nI_clamp (n := k) (by omega)]
  refine J_cVb (As := [.int 15, .int (wi k), .int (al k)]) (st := .int (nI xs5.length) :: .ref (mo 16) :: []) (rc2 := (rmK 8).cells) (rs2 := (rmK 8).slots) C iX10_sum_83 lm_X10_210 yc_X10_ask yv_X10_ask (c_X10_ask_2 hN hI.1 (q := wi k) (r := al k)) (q0 := 0) rfl rfl rfl [] [] rfl rfl (rmK_le (by omega) (by decide)) (Nat.le_of_ble_eq_true rfl) rfl rfl ?_
  rintro _ _ ⟨kn_1, sh_1, dk_1, rfl, rfl, okk1⟩
  refine J_st (.int (lfM N dy pc ht fs la 2 (wi k) (al k)) :: .int (nI xs5.length) :: .ref (mo 16) :: []) rfl ?_
  refine J_ws (wMd Z mo pl th sz ea tk dp lr dy ca kn_1 tp kd fr me va wo pc ht fs la kh kf kl sh_1 dk_1 sk5 ++ wPl Z pl (nI N) ls mn hn ha hh dz wh bg en od wi al) rfl ?_
  have hval : (lfI N dy pc ht fs la) (nI 2) (g k) (j k) = lfM N dy pc ht fs la 2 (wi k) (al k) := (lfI_nI (by decide)).trans lfM_2
  refine J_iast (wMd Z mo pl th sz ea tk dp lr dy ca kn_1 tp kd fr me va wo pc ht fs la kh kf kl sh_1 dk_1 (upd sk5 (nI xs5.length).toNatClampNeg (lfM N dy pc ht fs la 2 (wi k) (al k))) ++ wPl Z pl (nI N) ls mn hn ha hh dz wh bg en od wi al) 16 C iX10_sum_86 rfl (vp_in_nI (n := xs5.length) (by omega) (by decide)) rfl ?_
  rw [nI_clamp (n := xs5.length) (by omega)]
  refine J_iinc ((nI xs5.length) + 1) [(3, .int ((nI xs5.length) + 1)), (5, .int 15), (4, .int (nI k)), (0, .ref (mo 0)), (1, .int (nI y)), (2, .int (nI x))] C iX10_sum_87 rfl rfl (by decide) rfl ?_
  rw [show (nI xs5.length) + 1 = nI (xs5.length + 1) from nI_add _ _]
  refine J_goto 178 C iX10_sum_90 rfl ?_
  refine J_iinc ((nI k) + 1) [(4, .int ((nI k) + 1)), (3, .int (nI (xs5.length + 1))), (5, .int 15), (0, .ref (mo 0)), (1, .int (nI y)), (2, .int (nI x))] C iX10_sum_178 rfl rfl (by decide) rfl ?_
  rw [show (nI k) + 1 = nI (k + 1) from nI_add _ _]
  refine J_goto 17 C iX10_sum_181 rfl ?_
  refine J_lvm [(3, .int (nI (xs5.length + 1))), (4, .int (nI (k + 1))), (0, .ref (mo 0)), (1, .int (nI y)), (2, .int (nI x))] rfl ?_
  exact ih (kn_1, sh_1, dk_1, upd sk5 xs5.length (lfM N dy pc ht fs la 2 (wi k) (al k)), (lfM N dy pc ht fs la 2 (wi k) (al k)) :: xs5, false :: ts5) (by dsimp only; exact ⟨okk1, ⟨upd_s, skl_upd (Nat.le_refl _) hI.2.1⟩, ⟨(fun q => absurd q (by decide)), hI.2.2.1⟩, by simp only [List.length_cons]; omega, fun _ => hty2, by rw [← hI.2.2.2.2.2, evL_s hk, ho, evS_leaf (by decide) (by omega), hval]⟩)

set_option maxRecDepth 100000 in
set_option maxHeartbeats 4000000 in
theorem sum_b3 {Z : GZ} {X : CX} {Q : State → Prop} {mo pl : Nat → Nat} {N : Nat} {th sz ea tk dp lr dy ca ls mn : Int32} {hn va : Nat → Int64} {ha hh dz wh bg en od wi al tp kd fr me wo pc ht fs la kh kf kl : Nat → Int32} {y x s0 s1 k : Nat} {o g j : Nat → Int32} {b : Bool} {kn5 : Bool} {sh5 dk5 sk5 : Nat → Int32} {xs5 : List Int32} {ts5 t2 : List Bool} (C : Cx Z X cX10_sum 6 RX10) (hN : N ≤ 12) (hy : y < 16) (hx : x < 3) (hk0 : s0 ≤ k) (hk : k < s1) (h400 : s1 ≤ 400) (hI : (kn5 = true → LkOk N pc ht fs la sh5 dk5) ∧ SkL sk5 xs5 ∧ TyL ts5 xs5 ∧ xs5.length + s0 ≤ k ∧ (s0 < s1 → tyR o k (s1 - k) ts5 = some [b]) ∧ evL (lfI N dy pc ht fs la) o g j k (s1 - k) xs5 = evL (lfI N dy pc ht fs la) o g j s0 (s1 - s0) []) (ho : o k = nI 3) (hod : od k = omN 3) (r0 : 3 = 0 → wi k = g k) (rn : (3 = 3 ∨ 3 = 4 ∨ 3 = 5 ∨ 3 = 6 ∨ 3 = 7) → wi k = g k ∧ ∃ h, h < N ∧ g k = nI h) (r6 : 3 = 6 → al k = j k ∧ ∃ h, h < N ∧ j k = nI h) (hty1 : tyC 3 ts5 = some t2) (hty2 : tyR o (k + 1) (s1 - (k + 1)) t2 = some [b]) (ih : ∀ q : Bool × (Nat → Int32) × (Nat → Int32) × (Nat → Int32) × (List Int32) × (List Bool), ((q.1 = true → LkOk N pc ht fs la q.2.1 q.2.2.1) ∧ SkL q.2.2.2.1 q.2.2.2.2.1 ∧ TyL q.2.2.2.2.2 q.2.2.2.2.1 ∧ q.2.2.2.2.1.length + s0 ≤ (k + 1) ∧ (s0 < s1 → tyR o (k + 1) (s1 - (k + 1)) q.2.2.2.2.2 = some [b]) ∧ evL (lfI N dy pc ht fs la) o g j (k + 1) (s1 - (k + 1)) q.2.2.2.2.1 = evL (lfI N dy pc ht fs la) o g j s0 (s1 - s0) []) → Jd Z X (rmK 8) 6 Q (rmK 8).cells (rmK 8).slots 17 [(3, .int (nI q.2.2.2.2.1.length)), (4, .int (nI (k + 1))), (0, .ref (mo 0)), (1, .int (nI y)), (2, .int (nI x))] [] (wMd Z mo pl th sz ea tk dp lr dy ca q.1 tp kd fr me va wo pc ht fs la kh kf kl q.2.1 q.2.2.1 q.2.2.2.1 ++ wPl Z pl (nI N) ls mn hn ha hh dz wh bg en od wi al)) : Jd Z X (rmK 8) 6 Q (rmK 8).cells (rmK 8).slots 35 [(3, .int (nI xs5.length)), (4, .int (nI k)), (0, .ref (mo 0)), (1, .int (nI y)), (2, .int (nI x))] [] (wMd Z mo pl th sz ea tk dp lr dy ca kn5 tp kd fr me va wo pc ht fs la kh kf kl sh5 dk5 sk5 ++ wPl Z pl (nI N) ls mn hn ha hh dz wh bg en od wi al) := by
  obtain rfl : t2 = false :: ts5 := (Option.some.inj hty1).symm
  have hl9 : xs5.length < 400 := by have := hI.2.2.2.1; omega
  obtain ⟨w1, h1, hh1, w2⟩ := rn (by decide)
  refine J_aload_n C iX10_sum_35 rfl rfl ?_
  refine J_get (.ref (pl 0)) 0 C iX10_sum_36 gf_X10_20 rfl rfl ?_
  refine J_get (.ref (pl 8)) 17 C iX10_sum_39 gf_X10_198 rfl rfl ?_
  refine J_iload C iX10_sum_42 rfl ?_
  refine J_iald 25 C iX10_sum_44 rfl (vp_in_nI (n := k) (by omega) (by decide)) ?_
  rw [nI_clamp (n := k) (by omega)]
  refine J_istore [(5, .int (od k)), (3, .int (nI xs5.length)), (4, .int (nI k)), (0, .ref (mo 0)), (1, .int (nI y)), (2, .int (nI x))] C iX10_sum_45 (by decide) rfl ?_
  refine J_lvm [(5, .int 12), (3, .int (nI xs5.length)), (4, .int (nI k)), (0, .ref (mo 0)), (1, .int (nI y)), (2, .int (nI x))] (by rw [hod]; rfl) ?_
  refine J_iload C iX10_sum_47 rfl ?_
  refine J_cSp (As := [.int 12]) (st := []) C iX10_sum_49 lm_X10_201 yc_X10_isAsked ys_X10_isAsked (c_X10_isAsked (x := 12)) rfl (rmK_le (by omega) (by decide)) (Nat.le_of_ble_eq_true rfl) ⟨rfl, rfl⟩ ?_
  rintro _ rfl
  refine J_st (.int (b2i (askB 12)) :: []) rfl ?_
  refine J_ifeqb 93 C iX10_sum_52 rfl (fun h52 => absurd (h52.symm.trans (by decide : askB 12 = true)) (by decide)) (fun h52 => ?_)
  refine J_aload_n C iX10_sum_55 rfl rfl ?_
  refine J_get (.ref (mo 16)) 0 C iX10_sum_56 gf_X10_67 rfl rfl ?_
  refine J_iload_n C iX10_sum_59 rfl rfl ?_
  refine J_aload_n C iX10_sum_60 rfl rfl ?_
  refine J_iload C iX10_sum_61 rfl ?_
  refine J_aload_n C iX10_sum_63 rfl rfl ?_
  refine J_get (.ref (pl 0)) 0 C iX10_sum_64 gf_X10_20 rfl rfl ?_
  refine J_get (.ref (pl 9)) 17 C iX10_sum_67 gf_X10_204 rfl rfl ?_
  refine J_iload C iX10_sum_70 rfl ?_
  refine J_iald 26 C iX10_sum_72 rfl (vp_in_nI (n := k) (by omega) (by decide)) ?_
  rw [nI_clamp (n := k) (by omega)]
  refine J_aload_n C iX10_sum_73 rfl rfl ?_
  refine J_get (.ref (pl 0)) 0 C iX10_sum_74 gf_X10_20 rfl rfl ?_
  refine J_get (.ref (pl 10)) 17 C iX10_sum_77 gf_X10_207 rfl rfl ?_
  refine J_iload C iX10_sum_80 rfl ?_
  refine J_iald 27 C iX10_sum_82 rfl (vp_in_nI (n := k) (by omega) (by decide)) ?_
  rw [nI_clamp (n := k) (by omega)]
  refine J_st (.int (al k) :: .int (nI h1) :: .int 12 :: .ref (mo 0) :: .int (nI xs5.length) :: .ref (mo 16) :: []) (by rw [w1, w2]) ?_
  refine J_cVb (As := [.int 12, .int (nI h1), .int (al k)]) (st := .int (nI xs5.length) :: .ref (mo 16) :: []) (rc2 := (rmK 8).cells) (rs2 := (rmK 8).slots) C iX10_sum_83 lm_X10_210 yc_X10_ask yv_X10_ask (c_X10_ask_3 hN hI.1 (r := al k) hh1) (q0 := 0) rfl rfl rfl [] [] rfl rfl (rmK_le (by omega) (by decide)) (Nat.le_of_ble_eq_true rfl) rfl rfl ?_
  rintro _ _ ⟨kn_1, sh_1, dk_1, rfl, rfl, okk1⟩
  refine J_st (.int (lfM N dy pc ht fs la 3 (nI h1) (al k)) :: .int (nI xs5.length) :: .ref (mo 16) :: []) rfl ?_
  refine J_ws (wMd Z mo pl th sz ea tk dp lr dy ca kn_1 tp kd fr me va wo pc ht fs la kh kf kl sh_1 dk_1 sk5 ++ wPl Z pl (nI N) ls mn hn ha hh dz wh bg en od wi al) rfl ?_
  have hval : (lfI N dy pc ht fs la) (nI 3) (g k) (j k) = lfM N dy pc ht fs la 3 (nI h1) (al k) := by rw [w2]; exact (lfI_nI (by decide)).trans lfM_3
  refine J_iast (wMd Z mo pl th sz ea tk dp lr dy ca kn_1 tp kd fr me va wo pc ht fs la kh kf kl sh_1 dk_1 (upd sk5 (nI xs5.length).toNatClampNeg (lfM N dy pc ht fs la 3 (nI h1) (al k))) ++ wPl Z pl (nI N) ls mn hn ha hh dz wh bg en od wi al) 16 C iX10_sum_86 rfl (vp_in_nI (n := xs5.length) (by omega) (by decide)) rfl ?_
  rw [nI_clamp (n := xs5.length) (by omega)]
  refine J_iinc ((nI xs5.length) + 1) [(3, .int ((nI xs5.length) + 1)), (5, .int 12), (4, .int (nI k)), (0, .ref (mo 0)), (1, .int (nI y)), (2, .int (nI x))] C iX10_sum_87 rfl rfl (by decide) rfl ?_
  rw [show (nI xs5.length) + 1 = nI (xs5.length + 1) from nI_add _ _]
  refine J_goto 178 C iX10_sum_90 rfl ?_
  refine J_iinc ((nI k) + 1) [(4, .int ((nI k) + 1)), (3, .int (nI (xs5.length + 1))), (5, .int 12), (0, .ref (mo 0)), (1, .int (nI y)), (2, .int (nI x))] C iX10_sum_178 rfl rfl (by decide) rfl ?_
  rw [show (nI k) + 1 = nI (k + 1) from nI_add _ _]
  refine J_goto 17 C iX10_sum_181 rfl ?_
  refine J_lvm [(3, .int (nI (xs5.length + 1))), (4, .int (nI (k + 1))), (0, .ref (mo 0)), (1, .int (nI y)), (2, .int (nI x))] rfl ?_
  exact ih (kn_1, sh_1, dk_1, upd sk5 xs5.length (lfM N dy pc ht fs la 3 (nI h1) (al k)), (lfM N dy pc ht fs la 3 (nI h1) (al k)) :: xs5, false :: ts5) (by dsimp only; exact ⟨okk1, ⟨upd_s, skl_upd (Nat.le_refl _) hI.2.1⟩, ⟨(fun q => absurd q (by decide)), hI.2.2.1⟩, by simp only [List.length_cons]; omega, fun _ => hty2, by rw [← hI.2.2.2.2.2, evL_s hk, ho, evS_leaf (by decide) (by omega), hval]⟩)

set_option maxRecDepth 100000 in
set_option maxHeartbeats 4000000 in
theorem sum_b4 {Z : GZ} {X : CX} {Q : State → Prop} {mo pl : Nat → Nat} {N : Nat} {th sz ea tk dp lr dy ca ls mn : Int32} {hn va : Nat → Int64} {ha hh dz wh bg en od wi al tp kd fr me wo pc ht fs la kh kf kl : Nat → Int32} {y x s0 s1 k : Nat} {o g j : Nat → Int32} {b : Bool} {kn5 : Bool} {sh5 dk5 sk5 : Nat → Int32} {xs5 : List Int32} {ts5 t2 : List Bool} (C : Cx Z X cX10_sum 6 RX10) (hN : N ≤ 12) (hy : y < 16) (hx : x < 3) (hk0 : s0 ≤ k) (hk : k < s1) (h400 : s1 ≤ 400) (hI : (kn5 = true → LkOk N pc ht fs la sh5 dk5) ∧ SkL sk5 xs5 ∧ TyL ts5 xs5 ∧ xs5.length + s0 ≤ k ∧ (s0 < s1 → tyR o k (s1 - k) ts5 = some [b]) ∧ evL (lfI N dy pc ht fs la) o g j k (s1 - k) xs5 = evL (lfI N dy pc ht fs la) o g j s0 (s1 - s0) []) (ho : o k = nI 4) (hod : od k = omN 4) (r0 : 4 = 0 → wi k = g k) (rn : (4 = 3 ∨ 4 = 4 ∨ 4 = 5 ∨ 4 = 6 ∨ 4 = 7) → wi k = g k ∧ ∃ h, h < N ∧ g k = nI h) (r6 : 4 = 6 → al k = j k ∧ ∃ h, h < N ∧ j k = nI h) (hty1 : tyC 4 ts5 = some t2) (hty2 : tyR o (k + 1) (s1 - (k + 1)) t2 = some [b]) (ih : ∀ q : Bool × (Nat → Int32) × (Nat → Int32) × (Nat → Int32) × (List Int32) × (List Bool), ((q.1 = true → LkOk N pc ht fs la q.2.1 q.2.2.1) ∧ SkL q.2.2.2.1 q.2.2.2.2.1 ∧ TyL q.2.2.2.2.2 q.2.2.2.2.1 ∧ q.2.2.2.2.1.length + s0 ≤ (k + 1) ∧ (s0 < s1 → tyR o (k + 1) (s1 - (k + 1)) q.2.2.2.2.2 = some [b]) ∧ evL (lfI N dy pc ht fs la) o g j (k + 1) (s1 - (k + 1)) q.2.2.2.2.1 = evL (lfI N dy pc ht fs la) o g j s0 (s1 - s0) []) → Jd Z X (rmK 8) 6 Q (rmK 8).cells (rmK 8).slots 17 [(3, .int (nI q.2.2.2.2.1.length)), (4, .int (nI (k + 1))), (0, .ref (mo 0)), (1, .int (nI y)), (2, .int (nI x))] [] (wMd Z mo pl th sz ea tk dp lr dy ca q.1 tp kd fr me va wo pc ht fs la kh kf kl q.2.1 q.2.2.1 q.2.2.2.1 ++ wPl Z pl (nI N) ls mn hn ha hh dz wh bg en od wi al)) : Jd Z X (rmK 8) 6 Q (rmK 8).cells (rmK 8).slots 35 [(3, .int (nI xs5.length)), (4, .int (nI k)), (0, .ref (mo 0)), (1, .int (nI y)), (2, .int (nI x))] [] (wMd Z mo pl th sz ea tk dp lr dy ca kn5 tp kd fr me va wo pc ht fs la kh kf kl sh5 dk5 sk5 ++ wPl Z pl (nI N) ls mn hn ha hh dz wh bg en od wi al) := by
  obtain rfl : t2 = false :: ts5 := (Option.some.inj hty1).symm
  have hl9 : xs5.length < 400 := by have := hI.2.2.2.1; omega
  obtain ⟨w1, h1, hh1, w2⟩ := rn (by decide)
  refine J_aload_n C iX10_sum_35 rfl rfl ?_
  refine J_get (.ref (pl 0)) 0 C iX10_sum_36 gf_X10_20 rfl rfl ?_
  refine J_get (.ref (pl 8)) 17 C iX10_sum_39 gf_X10_198 rfl rfl ?_
  refine J_iload C iX10_sum_42 rfl ?_
  refine J_iald 25 C iX10_sum_44 rfl (vp_in_nI (n := k) (by omega) (by decide)) ?_
  rw [nI_clamp (n := k) (by omega)]
  refine J_istore [(5, .int (od k)), (3, .int (nI xs5.length)), (4, .int (nI k)), (0, .ref (mo 0)), (1, .int (nI y)), (2, .int (nI x))] C iX10_sum_45 (by decide) rfl ?_
  refine J_lvm [(5, .int 13), (3, .int (nI xs5.length)), (4, .int (nI k)), (0, .ref (mo 0)), (1, .int (nI y)), (2, .int (nI x))] (by rw [hod]; rfl) ?_
  refine J_iload C iX10_sum_47 rfl ?_
  refine J_cSp (As := [.int 13]) (st := []) C iX10_sum_49 lm_X10_201 yc_X10_isAsked ys_X10_isAsked (c_X10_isAsked (x := 13)) rfl (rmK_le (by omega) (by decide)) (Nat.le_of_ble_eq_true rfl) ⟨rfl, rfl⟩ ?_
  rintro _ rfl
  refine J_st (.int (b2i (askB 13)) :: []) rfl ?_
  refine J_ifeqb 93 C iX10_sum_52 rfl (fun h52 => absurd (h52.symm.trans (by decide : askB 13 = true)) (by decide)) (fun h52 => ?_)
  refine J_aload_n C iX10_sum_55 rfl rfl ?_
  refine J_get (.ref (mo 16)) 0 C iX10_sum_56 gf_X10_67 rfl rfl ?_
  refine J_iload_n C iX10_sum_59 rfl rfl ?_
  refine J_aload_n C iX10_sum_60 rfl rfl ?_
  refine J_iload C iX10_sum_61 rfl ?_
  refine J_aload_n C iX10_sum_63 rfl rfl ?_
  refine J_get (.ref (pl 0)) 0 C iX10_sum_64 gf_X10_20 rfl rfl ?_
  refine J_get (.ref (pl 9)) 17 C iX10_sum_67 gf_X10_204 rfl rfl ?_
  refine J_iload C iX10_sum_70 rfl ?_
  refine J_iald 26 C iX10_sum_72 rfl (vp_in_nI (n := k) (by omega) (by decide)) ?_
  rw [nI_clamp (n := k) (by omega)]
  refine J_aload_n C iX10_sum_73 rfl rfl ?_
  refine J_get (.ref (pl 0)) 0 C iX10_sum_74 gf_X10_20 rfl rfl ?_
  refine J_get (.ref (pl 10)) 17 C iX10_sum_77 gf_X10_207 rfl rfl ?_
  refine J_iload C iX10_sum_80 rfl ?_
  refine J_iald 27 C iX10_sum_82 rfl (vp_in_nI (n := k) (by omega) (by decide)) ?_
  rw [nI_clamp (n := k) (by omega)]
  refine J_st (.int (al k) :: .int (nI h1) :: .int 13 :: .ref (mo 0) :: .int (nI xs5.length) :: .ref (mo 16) :: []) (by rw [w1, w2]) ?_
  refine J_cVb (As := [.int 13, .int (nI h1), .int (al k)]) (st := .int (nI xs5.length) :: .ref (mo 16) :: []) (rc2 := (rmK 8).cells) (rs2 := (rmK 8).slots) C iX10_sum_83 lm_X10_210 yc_X10_ask yv_X10_ask (c_X10_ask_4 hN hI.1 (r := al k) hh1) (q0 := 0) rfl rfl rfl [] [] rfl rfl (rmK_le (by omega) (by decide)) (Nat.le_of_ble_eq_true rfl) rfl rfl ?_
  rintro _ _ ⟨kn_1, sh_1, dk_1, rfl, rfl, okk1⟩
  refine J_st (.int (lfM N dy pc ht fs la 4 (nI h1) (al k)) :: .int (nI xs5.length) :: .ref (mo 16) :: []) rfl ?_
  refine J_ws (wMd Z mo pl th sz ea tk dp lr dy ca kn_1 tp kd fr me va wo pc ht fs la kh kf kl sh_1 dk_1 sk5 ++ wPl Z pl (nI N) ls mn hn ha hh dz wh bg en od wi al) rfl ?_
  have hval : (lfI N dy pc ht fs la) (nI 4) (g k) (j k) = lfM N dy pc ht fs la 4 (nI h1) (al k) := by rw [w2]; exact (lfI_nI (by decide)).trans lfM_4
  refine J_iast (wMd Z mo pl th sz ea tk dp lr dy ca kn_1 tp kd fr me va wo pc ht fs la kh kf kl sh_1 dk_1 (upd sk5 (nI xs5.length).toNatClampNeg (lfM N dy pc ht fs la 4 (nI h1) (al k))) ++ wPl Z pl (nI N) ls mn hn ha hh dz wh bg en od wi al) 16 C iX10_sum_86 rfl (vp_in_nI (n := xs5.length) (by omega) (by decide)) rfl ?_
  rw [nI_clamp (n := xs5.length) (by omega)]
  refine J_iinc ((nI xs5.length) + 1) [(3, .int ((nI xs5.length) + 1)), (5, .int 13), (4, .int (nI k)), (0, .ref (mo 0)), (1, .int (nI y)), (2, .int (nI x))] C iX10_sum_87 rfl rfl (by decide) rfl ?_
  rw [show (nI xs5.length) + 1 = nI (xs5.length + 1) from nI_add _ _]
  refine J_goto 178 C iX10_sum_90 rfl ?_
  refine J_iinc ((nI k) + 1) [(4, .int ((nI k) + 1)), (3, .int (nI (xs5.length + 1))), (5, .int 13), (0, .ref (mo 0)), (1, .int (nI y)), (2, .int (nI x))] C iX10_sum_178 rfl rfl (by decide) rfl ?_
  rw [show (nI k) + 1 = nI (k + 1) from nI_add _ _]
  refine J_goto 17 C iX10_sum_181 rfl ?_
  refine J_lvm [(3, .int (nI (xs5.length + 1))), (4, .int (nI (k + 1))), (0, .ref (mo 0)), (1, .int (nI y)), (2, .int (nI x))] rfl ?_
  exact ih (kn_1, sh_1, dk_1, upd sk5 xs5.length (lfM N dy pc ht fs la 4 (nI h1) (al k)), (lfM N dy pc ht fs la 4 (nI h1) (al k)) :: xs5, false :: ts5) (by dsimp only; exact ⟨okk1, ⟨upd_s, skl_upd (Nat.le_refl _) hI.2.1⟩, ⟨(fun q => absurd q (by decide)), hI.2.2.1⟩, by simp only [List.length_cons]; omega, fun _ => hty2, by rw [← hI.2.2.2.2.2, evL_s hk, ho, evS_leaf (by decide) (by omega), hval]⟩)

set_option maxRecDepth 100000 in
set_option maxHeartbeats 4000000 in
theorem sum_b5 {Z : GZ} {X : CX} {Q : State → Prop} {mo pl : Nat → Nat} {N : Nat} {th sz ea tk dp lr dy ca ls mn : Int32} {hn va : Nat → Int64} {ha hh dz wh bg en od wi al tp kd fr me wo pc ht fs la kh kf kl : Nat → Int32} {y x s0 s1 k : Nat} {o g j : Nat → Int32} {b : Bool} {kn5 : Bool} {sh5 dk5 sk5 : Nat → Int32} {xs5 : List Int32} {ts5 t2 : List Bool} (C : Cx Z X cX10_sum 6 RX10) (hN : N ≤ 12) (hy : y < 16) (hx : x < 3) (hk0 : s0 ≤ k) (hk : k < s1) (h400 : s1 ≤ 400) (hI : (kn5 = true → LkOk N pc ht fs la sh5 dk5) ∧ SkL sk5 xs5 ∧ TyL ts5 xs5 ∧ xs5.length + s0 ≤ k ∧ (s0 < s1 → tyR o k (s1 - k) ts5 = some [b]) ∧ evL (lfI N dy pc ht fs la) o g j k (s1 - k) xs5 = evL (lfI N dy pc ht fs la) o g j s0 (s1 - s0) []) (ho : o k = nI 5) (hod : od k = omN 5) (r0 : 5 = 0 → wi k = g k) (rn : (5 = 3 ∨ 5 = 4 ∨ 5 = 5 ∨ 5 = 6 ∨ 5 = 7) → wi k = g k ∧ ∃ h, h < N ∧ g k = nI h) (r6 : 5 = 6 → al k = j k ∧ ∃ h, h < N ∧ j k = nI h) (hty1 : tyC 5 ts5 = some t2) (hty2 : tyR o (k + 1) (s1 - (k + 1)) t2 = some [b]) (ih : ∀ q : Bool × (Nat → Int32) × (Nat → Int32) × (Nat → Int32) × (List Int32) × (List Bool), ((q.1 = true → LkOk N pc ht fs la q.2.1 q.2.2.1) ∧ SkL q.2.2.2.1 q.2.2.2.2.1 ∧ TyL q.2.2.2.2.2 q.2.2.2.2.1 ∧ q.2.2.2.2.1.length + s0 ≤ (k + 1) ∧ (s0 < s1 → tyR o (k + 1) (s1 - (k + 1)) q.2.2.2.2.2 = some [b]) ∧ evL (lfI N dy pc ht fs la) o g j (k + 1) (s1 - (k + 1)) q.2.2.2.2.1 = evL (lfI N dy pc ht fs la) o g j s0 (s1 - s0) []) → Jd Z X (rmK 8) 6 Q (rmK 8).cells (rmK 8).slots 17 [(3, .int (nI q.2.2.2.2.1.length)), (4, .int (nI (k + 1))), (0, .ref (mo 0)), (1, .int (nI y)), (2, .int (nI x))] [] (wMd Z mo pl th sz ea tk dp lr dy ca q.1 tp kd fr me va wo pc ht fs la kh kf kl q.2.1 q.2.2.1 q.2.2.2.1 ++ wPl Z pl (nI N) ls mn hn ha hh dz wh bg en od wi al)) : Jd Z X (rmK 8) 6 Q (rmK 8).cells (rmK 8).slots 35 [(3, .int (nI xs5.length)), (4, .int (nI k)), (0, .ref (mo 0)), (1, .int (nI y)), (2, .int (nI x))] [] (wMd Z mo pl th sz ea tk dp lr dy ca kn5 tp kd fr me va wo pc ht fs la kh kf kl sh5 dk5 sk5 ++ wPl Z pl (nI N) ls mn hn ha hh dz wh bg en od wi al) := by
  obtain rfl : t2 = false :: ts5 := (Option.some.inj hty1).symm
  have hl9 : xs5.length < 400 := by have := hI.2.2.2.1; omega
  obtain ⟨w1, h1, hh1, w2⟩ := rn (by decide)
  refine J_aload_n C iX10_sum_35 rfl rfl ?_
  refine J_get (.ref (pl 0)) 0 C iX10_sum_36 gf_X10_20 rfl rfl ?_
  refine J_get (.ref (pl 8)) 17 C iX10_sum_39 gf_X10_198 rfl rfl ?_
  refine J_iload C iX10_sum_42 rfl ?_
  refine J_iald 25 C iX10_sum_44 rfl (vp_in_nI (n := k) (by omega) (by decide)) ?_
  rw [nI_clamp (n := k) (by omega)]
  refine J_istore [(5, .int (od k)), (3, .int (nI xs5.length)), (4, .int (nI k)), (0, .ref (mo 0)), (1, .int (nI y)), (2, .int (nI x))] C iX10_sum_45 (by decide) rfl ?_
  refine J_lvm [(5, .int 14), (3, .int (nI xs5.length)), (4, .int (nI k)), (0, .ref (mo 0)), (1, .int (nI y)), (2, .int (nI x))] (by rw [hod]; rfl) ?_
  refine J_iload C iX10_sum_47 rfl ?_
  refine J_cSp (As := [.int 14]) (st := []) C iX10_sum_49 lm_X10_201 yc_X10_isAsked ys_X10_isAsked (c_X10_isAsked (x := 14)) rfl (rmK_le (by omega) (by decide)) (Nat.le_of_ble_eq_true rfl) ⟨rfl, rfl⟩ ?_
  rintro _ rfl
  refine J_st (.int (b2i (askB 14)) :: []) rfl ?_
  refine J_ifeqb 93 C iX10_sum_52 rfl (fun h52 => absurd (h52.symm.trans (by decide : askB 14 = true)) (by decide)) (fun h52 => ?_)
  refine J_aload_n C iX10_sum_55 rfl rfl ?_
  refine J_get (.ref (mo 16)) 0 C iX10_sum_56 gf_X10_67 rfl rfl ?_
  refine J_iload_n C iX10_sum_59 rfl rfl ?_
  refine J_aload_n C iX10_sum_60 rfl rfl ?_
  refine J_iload C iX10_sum_61 rfl ?_
  refine J_aload_n C iX10_sum_63 rfl rfl ?_
  refine J_get (.ref (pl 0)) 0 C iX10_sum_64 gf_X10_20 rfl rfl ?_
  refine J_get (.ref (pl 9)) 17 C iX10_sum_67 gf_X10_204 rfl rfl ?_
  refine J_iload C iX10_sum_70 rfl ?_
  refine J_iald 26 C iX10_sum_72 rfl (vp_in_nI (n := k) (by omega) (by decide)) ?_
  rw [nI_clamp (n := k) (by omega)]
  refine J_aload_n C iX10_sum_73 rfl rfl ?_
  refine J_get (.ref (pl 0)) 0 C iX10_sum_74 gf_X10_20 rfl rfl ?_
  refine J_get (.ref (pl 10)) 17 C iX10_sum_77 gf_X10_207 rfl rfl ?_
  refine J_iload C iX10_sum_80 rfl ?_
  refine J_iald 27 C iX10_sum_82 rfl (vp_in_nI (n := k) (by omega) (by decide)) ?_
  rw [nI_clamp (n := k) (by omega)]
  refine J_st (.int (al k) :: .int (nI h1) :: .int 14 :: .ref (mo 0) :: .int (nI xs5.length) :: .ref (mo 16) :: []) (by rw [w1, w2]) ?_
  refine J_cVb (As := [.int 14, .int (nI h1), .int (al k)]) (st := .int (nI xs5.length) :: .ref (mo 16) :: []) (rc2 := (rmK 8).cells) (rs2 := (rmK 8).slots) C iX10_sum_83 lm_X10_210 yc_X10_ask yv_X10_ask (c_X10_ask_5 hN hI.1 (r := al k) hh1) (q0 := 0) rfl rfl rfl [] [] rfl rfl (rmK_le (by omega) (by decide)) (Nat.le_of_ble_eq_true rfl) rfl rfl ?_
  rintro _ _ ⟨kn_1, sh_1, dk_1, rfl, rfl, okk1⟩
  refine J_st (.int (lfM N dy pc ht fs la 5 (nI h1) (al k)) :: .int (nI xs5.length) :: .ref (mo 16) :: []) rfl ?_
  refine J_ws (wMd Z mo pl th sz ea tk dp lr dy ca kn_1 tp kd fr me va wo pc ht fs la kh kf kl sh_1 dk_1 sk5 ++ wPl Z pl (nI N) ls mn hn ha hh dz wh bg en od wi al) rfl ?_
  have hval : (lfI N dy pc ht fs la) (nI 5) (g k) (j k) = lfM N dy pc ht fs la 5 (nI h1) (al k) := by rw [w2]; exact (lfI_nI (by decide)).trans lfM_5
  refine J_iast (wMd Z mo pl th sz ea tk dp lr dy ca kn_1 tp kd fr me va wo pc ht fs la kh kf kl sh_1 dk_1 (upd sk5 (nI xs5.length).toNatClampNeg (lfM N dy pc ht fs la 5 (nI h1) (al k))) ++ wPl Z pl (nI N) ls mn hn ha hh dz wh bg en od wi al) 16 C iX10_sum_86 rfl (vp_in_nI (n := xs5.length) (by omega) (by decide)) rfl ?_
  rw [nI_clamp (n := xs5.length) (by omega)]
  refine J_iinc ((nI xs5.length) + 1) [(3, .int ((nI xs5.length) + 1)), (5, .int 14), (4, .int (nI k)), (0, .ref (mo 0)), (1, .int (nI y)), (2, .int (nI x))] C iX10_sum_87 rfl rfl (by decide) rfl ?_
  rw [show (nI xs5.length) + 1 = nI (xs5.length + 1) from nI_add _ _]
  refine J_goto 178 C iX10_sum_90 rfl ?_
  refine J_iinc ((nI k) + 1) [(4, .int ((nI k) + 1)), (3, .int (nI (xs5.length + 1))), (5, .int 14), (0, .ref (mo 0)), (1, .int (nI y)), (2, .int (nI x))] C iX10_sum_178 rfl rfl (by decide) rfl ?_
  rw [show (nI k) + 1 = nI (k + 1) from nI_add _ _]
  refine J_goto 17 C iX10_sum_181 rfl ?_
  refine J_lvm [(3, .int (nI (xs5.length + 1))), (4, .int (nI (k + 1))), (0, .ref (mo 0)), (1, .int (nI y)), (2, .int (nI x))] rfl ?_
  exact ih (kn_1, sh_1, dk_1, upd sk5 xs5.length (lfM N dy pc ht fs la 5 (nI h1) (al k)), (lfM N dy pc ht fs la 5 (nI h1) (al k)) :: xs5, false :: ts5) (by dsimp only; exact ⟨okk1, ⟨upd_s, skl_upd (Nat.le_refl _) hI.2.1⟩, ⟨(fun q => absurd q (by decide)), hI.2.2.1⟩, by simp only [List.length_cons]; omega, fun _ => hty2, by rw [← hI.2.2.2.2.2, evL_s hk, ho, evS_leaf (by decide) (by omega), hval]⟩)

set_option maxRecDepth 100000 in
set_option maxHeartbeats 4000000 in
theorem sum_b6 {Z : GZ} {X : CX} {Q : State → Prop} {mo pl : Nat → Nat} {N : Nat} {th sz ea tk dp lr dy ca ls mn : Int32} {hn va : Nat → Int64} {ha hh dz wh bg en od wi al tp kd fr me wo pc ht fs la kh kf kl : Nat → Int32} {y x s0 s1 k : Nat} {o g j : Nat → Int32} {b : Bool} {kn5 : Bool} {sh5 dk5 sk5 : Nat → Int32} {xs5 : List Int32} {ts5 t2 : List Bool} (C : Cx Z X cX10_sum 6 RX10) (hN : N ≤ 12) (hy : y < 16) (hx : x < 3) (hk0 : s0 ≤ k) (hk : k < s1) (h400 : s1 ≤ 400) (hI : (kn5 = true → LkOk N pc ht fs la sh5 dk5) ∧ SkL sk5 xs5 ∧ TyL ts5 xs5 ∧ xs5.length + s0 ≤ k ∧ (s0 < s1 → tyR o k (s1 - k) ts5 = some [b]) ∧ evL (lfI N dy pc ht fs la) o g j k (s1 - k) xs5 = evL (lfI N dy pc ht fs la) o g j s0 (s1 - s0) []) (ho : o k = nI 6) (hod : od k = omN 6) (r0 : 6 = 0 → wi k = g k) (rn : (6 = 3 ∨ 6 = 4 ∨ 6 = 5 ∨ 6 = 6 ∨ 6 = 7) → wi k = g k ∧ ∃ h, h < N ∧ g k = nI h) (r6 : 6 = 6 → al k = j k ∧ ∃ h, h < N ∧ j k = nI h) (hty1 : tyC 6 ts5 = some t2) (hty2 : tyR o (k + 1) (s1 - (k + 1)) t2 = some [b]) (ih : ∀ q : Bool × (Nat → Int32) × (Nat → Int32) × (Nat → Int32) × (List Int32) × (List Bool), ((q.1 = true → LkOk N pc ht fs la q.2.1 q.2.2.1) ∧ SkL q.2.2.2.1 q.2.2.2.2.1 ∧ TyL q.2.2.2.2.2 q.2.2.2.2.1 ∧ q.2.2.2.2.1.length + s0 ≤ (k + 1) ∧ (s0 < s1 → tyR o (k + 1) (s1 - (k + 1)) q.2.2.2.2.2 = some [b]) ∧ evL (lfI N dy pc ht fs la) o g j (k + 1) (s1 - (k + 1)) q.2.2.2.2.1 = evL (lfI N dy pc ht fs la) o g j s0 (s1 - s0) []) → Jd Z X (rmK 8) 6 Q (rmK 8).cells (rmK 8).slots 17 [(3, .int (nI q.2.2.2.2.1.length)), (4, .int (nI (k + 1))), (0, .ref (mo 0)), (1, .int (nI y)), (2, .int (nI x))] [] (wMd Z mo pl th sz ea tk dp lr dy ca q.1 tp kd fr me va wo pc ht fs la kh kf kl q.2.1 q.2.2.1 q.2.2.2.1 ++ wPl Z pl (nI N) ls mn hn ha hh dz wh bg en od wi al)) : Jd Z X (rmK 8) 6 Q (rmK 8).cells (rmK 8).slots 35 [(3, .int (nI xs5.length)), (4, .int (nI k)), (0, .ref (mo 0)), (1, .int (nI y)), (2, .int (nI x))] [] (wMd Z mo pl th sz ea tk dp lr dy ca kn5 tp kd fr me va wo pc ht fs la kh kf kl sh5 dk5 sk5 ++ wPl Z pl (nI N) ls mn hn ha hh dz wh bg en od wi al) := by
  obtain rfl : t2 = true :: ts5 := (Option.some.inj hty1).symm
  have hl9 : xs5.length < 400 := by have := hI.2.2.2.1; omega
  obtain ⟨w1, h1, hh1, w2⟩ := rn (by decide)
  obtain ⟨w3, h2, hh2, w4⟩ := r6 rfl
  refine J_aload_n C iX10_sum_35 rfl rfl ?_
  refine J_get (.ref (pl 0)) 0 C iX10_sum_36 gf_X10_20 rfl rfl ?_
  refine J_get (.ref (pl 8)) 17 C iX10_sum_39 gf_X10_198 rfl rfl ?_
  refine J_iload C iX10_sum_42 rfl ?_
  refine J_iald 25 C iX10_sum_44 rfl (vp_in_nI (n := k) (by omega) (by decide)) ?_
  rw [nI_clamp (n := k) (by omega)]
  refine J_istore [(5, .int (od k)), (3, .int (nI xs5.length)), (4, .int (nI k)), (0, .ref (mo 0)), (1, .int (nI y)), (2, .int (nI x))] C iX10_sum_45 (by decide) rfl ?_
  refine J_lvm [(5, .int 17), (3, .int (nI xs5.length)), (4, .int (nI k)), (0, .ref (mo 0)), (1, .int (nI y)), (2, .int (nI x))] (by rw [hod]; rfl) ?_
  refine J_iload C iX10_sum_47 rfl ?_
  refine J_cSp (As := [.int 17]) (st := []) C iX10_sum_49 lm_X10_201 yc_X10_isAsked ys_X10_isAsked (c_X10_isAsked (x := 17)) rfl (rmK_le (by omega) (by decide)) (Nat.le_of_ble_eq_true rfl) ⟨rfl, rfl⟩ ?_
  rintro _ rfl
  refine J_st (.int (b2i (askB 17)) :: []) rfl ?_
  refine J_ifeqb 93 C iX10_sum_52 rfl (fun h52 => absurd (h52.symm.trans (by decide : askB 17 = true)) (by decide)) (fun h52 => ?_)
  refine J_aload_n C iX10_sum_55 rfl rfl ?_
  refine J_get (.ref (mo 16)) 0 C iX10_sum_56 gf_X10_67 rfl rfl ?_
  refine J_iload_n C iX10_sum_59 rfl rfl ?_
  refine J_aload_n C iX10_sum_60 rfl rfl ?_
  refine J_iload C iX10_sum_61 rfl ?_
  refine J_aload_n C iX10_sum_63 rfl rfl ?_
  refine J_get (.ref (pl 0)) 0 C iX10_sum_64 gf_X10_20 rfl rfl ?_
  refine J_get (.ref (pl 9)) 17 C iX10_sum_67 gf_X10_204 rfl rfl ?_
  refine J_iload C iX10_sum_70 rfl ?_
  refine J_iald 26 C iX10_sum_72 rfl (vp_in_nI (n := k) (by omega) (by decide)) ?_
  rw [nI_clamp (n := k) (by omega)]
  refine J_aload_n C iX10_sum_73 rfl rfl ?_
  refine J_get (.ref (pl 0)) 0 C iX10_sum_74 gf_X10_20 rfl rfl ?_
  refine J_get (.ref (pl 10)) 17 C iX10_sum_77 gf_X10_207 rfl rfl ?_
  refine J_iload C iX10_sum_80 rfl ?_
  refine J_iald 27 C iX10_sum_82 rfl (vp_in_nI (n := k) (by omega) (by decide)) ?_
  rw [nI_clamp (n := k) (by omega)]
  refine J_st (.int (nI h2) :: .int (nI h1) :: .int 17 :: .ref (mo 0) :: .int (nI xs5.length) :: .ref (mo 16) :: []) (by rw [w1, w2, w3, w4]) ?_
  refine J_cVb (As := [.int 17, .int (nI h1), .int (nI h2)]) (st := .int (nI xs5.length) :: .ref (mo 16) :: []) (rc2 := (rmK 8).cells) (rs2 := (rmK 8).slots) C iX10_sum_83 lm_X10_210 yc_X10_ask yv_X10_ask (c_X10_ask_6 hN hI.1 hh1 hh2) (q0 := 0) rfl rfl rfl [] [] rfl rfl (rmK_le (by omega) (by decide)) (Nat.le_of_ble_eq_true rfl) rfl rfl ?_
  rintro _ _ ⟨kn_1, sh_1, dk_1, rfl, rfl, okk1⟩
  refine J_st (.int (lfM N dy pc ht fs la 6 (nI h1) (nI h2)) :: .int (nI xs5.length) :: .ref (mo 16) :: []) rfl ?_
  refine J_ws (wMd Z mo pl th sz ea tk dp lr dy ca kn_1 tp kd fr me va wo pc ht fs la kh kf kl sh_1 dk_1 sk5 ++ wPl Z pl (nI N) ls mn hn ha hh dz wh bg en od wi al) rfl ?_
  have hval : (lfI N dy pc ht fs la) (nI 6) (g k) (j k) = lfM N dy pc ht fs la 6 (nI h1) (nI h2) := by rw [w2, w4]; exact lfI_nI (by decide)
  refine J_iast (wMd Z mo pl th sz ea tk dp lr dy ca kn_1 tp kd fr me va wo pc ht fs la kh kf kl sh_1 dk_1 (upd sk5 (nI xs5.length).toNatClampNeg (lfM N dy pc ht fs la 6 (nI h1) (nI h2))) ++ wPl Z pl (nI N) ls mn hn ha hh dz wh bg en od wi al) 16 C iX10_sum_86 rfl (vp_in_nI (n := xs5.length) (by omega) (by decide)) rfl ?_
  rw [nI_clamp (n := xs5.length) (by omega)]
  refine J_iinc ((nI xs5.length) + 1) [(3, .int ((nI xs5.length) + 1)), (5, .int 17), (4, .int (nI k)), (0, .ref (mo 0)), (1, .int (nI y)), (2, .int (nI x))] C iX10_sum_87 rfl rfl (by decide) rfl ?_
  rw [show (nI xs5.length) + 1 = nI (xs5.length + 1) from nI_add _ _]
  refine J_goto 178 C iX10_sum_90 rfl ?_
  refine J_iinc ((nI k) + 1) [(4, .int ((nI k) + 1)), (3, .int (nI (xs5.length + 1))), (5, .int 17), (0, .ref (mo 0)), (1, .int (nI y)), (2, .int (nI x))] C iX10_sum_178 rfl rfl (by decide) rfl ?_
  rw [show (nI k) + 1 = nI (k + 1) from nI_add _ _]
  refine J_goto 17 C iX10_sum_181 rfl ?_
  refine J_lvm [(3, .int (nI (xs5.length + 1))), (4, .int (nI (k + 1))), (0, .ref (mo 0)), (1, .int (nI y)), (2, .int (nI x))] rfl ?_
  exact ih (kn_1, sh_1, dk_1, upd sk5 xs5.length (lfM N dy pc ht fs la 6 (nI h1) (nI h2)), (lfM N dy pc ht fs la 6 (nI h1) (nI h2)) :: xs5, true :: ts5) (by dsimp only; exact ⟨okk1, ⟨upd_s, skl_upd (Nat.le_refl _) hI.2.1⟩, ⟨(fun _ => b2i_01 _), hI.2.2.1⟩, by simp only [List.length_cons]; omega, fun _ => hty2, by rw [← hI.2.2.2.2.2, evL_s hk, ho, evS_leaf (by decide) (by omega), hval]⟩)

set_option maxRecDepth 100000 in
set_option maxHeartbeats 4000000 in
theorem sum_b7 {Z : GZ} {X : CX} {Q : State → Prop} {mo pl : Nat → Nat} {N : Nat} {th sz ea tk dp lr dy ca ls mn : Int32} {hn va : Nat → Int64} {ha hh dz wh bg en od wi al tp kd fr me wo pc ht fs la kh kf kl : Nat → Int32} {y x s0 s1 k : Nat} {o g j : Nat → Int32} {b : Bool} {kn5 : Bool} {sh5 dk5 sk5 : Nat → Int32} {xs5 : List Int32} {ts5 t2 : List Bool} (C : Cx Z X cX10_sum 6 RX10) (hN : N ≤ 12) (hy : y < 16) (hx : x < 3) (hk0 : s0 ≤ k) (hk : k < s1) (h400 : s1 ≤ 400) (hI : (kn5 = true → LkOk N pc ht fs la sh5 dk5) ∧ SkL sk5 xs5 ∧ TyL ts5 xs5 ∧ xs5.length + s0 ≤ k ∧ (s0 < s1 → tyR o k (s1 - k) ts5 = some [b]) ∧ evL (lfI N dy pc ht fs la) o g j k (s1 - k) xs5 = evL (lfI N dy pc ht fs la) o g j s0 (s1 - s0) []) (ho : o k = nI 7) (hod : od k = omN 7) (r0 : 7 = 0 → wi k = g k) (rn : (7 = 3 ∨ 7 = 4 ∨ 7 = 5 ∨ 7 = 6 ∨ 7 = 7) → wi k = g k ∧ ∃ h, h < N ∧ g k = nI h) (r6 : 7 = 6 → al k = j k ∧ ∃ h, h < N ∧ j k = nI h) (hty1 : tyC 7 ts5 = some t2) (hty2 : tyR o (k + 1) (s1 - (k + 1)) t2 = some [b]) (ih : ∀ q : Bool × (Nat → Int32) × (Nat → Int32) × (Nat → Int32) × (List Int32) × (List Bool), ((q.1 = true → LkOk N pc ht fs la q.2.1 q.2.2.1) ∧ SkL q.2.2.2.1 q.2.2.2.2.1 ∧ TyL q.2.2.2.2.2 q.2.2.2.2.1 ∧ q.2.2.2.2.1.length + s0 ≤ (k + 1) ∧ (s0 < s1 → tyR o (k + 1) (s1 - (k + 1)) q.2.2.2.2.2 = some [b]) ∧ evL (lfI N dy pc ht fs la) o g j (k + 1) (s1 - (k + 1)) q.2.2.2.2.1 = evL (lfI N dy pc ht fs la) o g j s0 (s1 - s0) []) → Jd Z X (rmK 8) 6 Q (rmK 8).cells (rmK 8).slots 17 [(3, .int (nI q.2.2.2.2.1.length)), (4, .int (nI (k + 1))), (0, .ref (mo 0)), (1, .int (nI y)), (2, .int (nI x))] [] (wMd Z mo pl th sz ea tk dp lr dy ca q.1 tp kd fr me va wo pc ht fs la kh kf kl q.2.1 q.2.2.1 q.2.2.2.1 ++ wPl Z pl (nI N) ls mn hn ha hh dz wh bg en od wi al)) : Jd Z X (rmK 8) 6 Q (rmK 8).cells (rmK 8).slots 35 [(3, .int (nI xs5.length)), (4, .int (nI k)), (0, .ref (mo 0)), (1, .int (nI y)), (2, .int (nI x))] [] (wMd Z mo pl th sz ea tk dp lr dy ca kn5 tp kd fr me va wo pc ht fs la kh kf kl sh5 dk5 sk5 ++ wPl Z pl (nI N) ls mn hn ha hh dz wh bg en od wi al) := by
  obtain rfl : t2 = true :: ts5 := (Option.some.inj hty1).symm
  have hl9 : xs5.length < 400 := by have := hI.2.2.2.1; omega
  obtain ⟨w1, h1, hh1, w2⟩ := rn (by decide)
  refine J_aload_n C iX10_sum_35 rfl rfl ?_
  refine J_get (.ref (pl 0)) 0 C iX10_sum_36 gf_X10_20 rfl rfl ?_
  refine J_get (.ref (pl 8)) 17 C iX10_sum_39 gf_X10_198 rfl rfl ?_
  refine J_iload C iX10_sum_42 rfl ?_
  refine J_iald 25 C iX10_sum_44 rfl (vp_in_nI (n := k) (by omega) (by decide)) ?_
  rw [nI_clamp (n := k) (by omega)]
  refine J_istore [(5, .int (od k)), (3, .int (nI xs5.length)), (4, .int (nI k)), (0, .ref (mo 0)), (1, .int (nI y)), (2, .int (nI x))] C iX10_sum_45 (by decide) rfl ?_
  refine J_lvm [(5, .int 18), (3, .int (nI xs5.length)), (4, .int (nI k)), (0, .ref (mo 0)), (1, .int (nI y)), (2, .int (nI x))] (by rw [hod]; rfl) ?_
  refine J_iload C iX10_sum_47 rfl ?_
  refine J_cSp (As := [.int 18]) (st := []) C iX10_sum_49 lm_X10_201 yc_X10_isAsked ys_X10_isAsked (c_X10_isAsked (x := 18)) rfl (rmK_le (by omega) (by decide)) (Nat.le_of_ble_eq_true rfl) ⟨rfl, rfl⟩ ?_
  rintro _ rfl
  refine J_st (.int (b2i (askB 18)) :: []) rfl ?_
  refine J_ifeqb 93 C iX10_sum_52 rfl (fun h52 => absurd (h52.symm.trans (by decide : askB 18 = true)) (by decide)) (fun h52 => ?_)
  refine J_aload_n C iX10_sum_55 rfl rfl ?_
  refine J_get (.ref (mo 16)) 0 C iX10_sum_56 gf_X10_67 rfl rfl ?_
  refine J_iload_n C iX10_sum_59 rfl rfl ?_
  refine J_aload_n C iX10_sum_60 rfl rfl ?_
  refine J_iload C iX10_sum_61 rfl ?_
  refine J_aload_n C iX10_sum_63 rfl rfl ?_
  refine J_get (.ref (pl 0)) 0 C iX10_sum_64 gf_X10_20 rfl rfl ?_
  refine J_get (.ref (pl 9)) 17 C iX10_sum_67 gf_X10_204 rfl rfl ?_
  refine J_iload C iX10_sum_70 rfl ?_
  refine J_iald 26 C iX10_sum_72 rfl (vp_in_nI (n := k) (by omega) (by decide)) ?_
  rw [nI_clamp (n := k) (by omega)]
  refine J_aload_n C iX10_sum_73 rfl rfl ?_
  refine J_get (.ref (pl 0)) 0 C iX10_sum_74 gf_X10_20 rfl rfl ?_
  refine J_get (.ref (pl 10)) 17 C iX10_sum_77 gf_X10_207 rfl rfl ?_
  refine J_iload C iX10_sum_80 rfl ?_
  refine J_iald 27 C iX10_sum_82 rfl (vp_in_nI (n := k) (by omega) (by decide)) ?_
  rw [nI_clamp (n := k) (by omega)]
  refine J_st (.int (al k) :: .int (nI h1) :: .int 18 :: .ref (mo 0) :: .int (nI xs5.length) :: .ref (mo 16) :: []) (by rw [w1, w2]) ?_
  refine J_cVb (As := [.int 18, .int (nI h1), .int (al k)]) (st := .int (nI xs5.length) :: .ref (mo 16) :: []) (rc2 := (rmK 8).cells) (rs2 := (rmK 8).slots) C iX10_sum_83 lm_X10_210 yc_X10_ask yv_X10_ask (c_X10_ask_7 hN hI.1 (r := al k) hh1) (q0 := 0) rfl rfl rfl [] [] rfl rfl (rmK_le (by omega) (by decide)) (Nat.le_of_ble_eq_true rfl) rfl rfl ?_
  rintro _ _ ⟨kn_1, sh_1, dk_1, rfl, rfl, okk1⟩
  refine J_st (.int (lfM N dy pc ht fs la 7 (nI h1) (al k)) :: .int (nI xs5.length) :: .ref (mo 16) :: []) rfl ?_
  refine J_ws (wMd Z mo pl th sz ea tk dp lr dy ca kn_1 tp kd fr me va wo pc ht fs la kh kf kl sh_1 dk_1 sk5 ++ wPl Z pl (nI N) ls mn hn ha hh dz wh bg en od wi al) rfl ?_
  have hval : (lfI N dy pc ht fs la) (nI 7) (g k) (j k) = lfM N dy pc ht fs la 7 (nI h1) (al k) := by rw [w2]; exact (lfI_nI (by decide)).trans lfM_7
  refine J_iast (wMd Z mo pl th sz ea tk dp lr dy ca kn_1 tp kd fr me va wo pc ht fs la kh kf kl sh_1 dk_1 (upd sk5 (nI xs5.length).toNatClampNeg (lfM N dy pc ht fs la 7 (nI h1) (al k))) ++ wPl Z pl (nI N) ls mn hn ha hh dz wh bg en od wi al) 16 C iX10_sum_86 rfl (vp_in_nI (n := xs5.length) (by omega) (by decide)) rfl ?_
  rw [nI_clamp (n := xs5.length) (by omega)]
  refine J_iinc ((nI xs5.length) + 1) [(3, .int ((nI xs5.length) + 1)), (5, .int 18), (4, .int (nI k)), (0, .ref (mo 0)), (1, .int (nI y)), (2, .int (nI x))] C iX10_sum_87 rfl rfl (by decide) rfl ?_
  rw [show (nI xs5.length) + 1 = nI (xs5.length + 1) from nI_add _ _]
  refine J_goto 178 C iX10_sum_90 rfl ?_
  refine J_iinc ((nI k) + 1) [(4, .int ((nI k) + 1)), (3, .int (nI (xs5.length + 1))), (5, .int 18), (0, .ref (mo 0)), (1, .int (nI y)), (2, .int (nI x))] C iX10_sum_178 rfl rfl (by decide) rfl ?_
  rw [show (nI k) + 1 = nI (k + 1) from nI_add _ _]
  refine J_goto 17 C iX10_sum_181 rfl ?_
  refine J_lvm [(3, .int (nI (xs5.length + 1))), (4, .int (nI (k + 1))), (0, .ref (mo 0)), (1, .int (nI y)), (2, .int (nI x))] rfl ?_
  exact ih (kn_1, sh_1, dk_1, upd sk5 xs5.length (lfM N dy pc ht fs la 7 (nI h1) (al k)), (lfM N dy pc ht fs la 7 (nI h1) (al k)) :: xs5, true :: ts5) (by dsimp only; exact ⟨okk1, ⟨upd_s, skl_upd (Nat.le_refl _) hI.2.1⟩, ⟨(fun _ => b2i_01 _), hI.2.2.1⟩, by simp only [List.length_cons]; omega, fun _ => hty2, by rw [← hI.2.2.2.2.2, evL_s hk, ho, evS_leaf (by decide) (by omega), hval]⟩)

set_option maxRecDepth 100000 in
set_option maxHeartbeats 4000000 in
theorem sum_b8 {Z : GZ} {X : CX} {Q : State → Prop} {mo pl : Nat → Nat} {N : Nat} {th sz ea tk dp lr dy ca ls mn : Int32} {hn va : Nat → Int64} {ha hh dz wh bg en od wi al tp kd fr me wo pc ht fs la kh kf kl : Nat → Int32} {y x s0 s1 k : Nat} {o g j : Nat → Int32} {b : Bool} {kn5 : Bool} {sh5 dk5 sk5 : Nat → Int32} {xs5 : List Int32} {ts5 t2 : List Bool} (C : Cx Z X cX10_sum 6 RX10) (hN : N ≤ 12) (hy : y < 16) (hx : x < 3) (hk0 : s0 ≤ k) (hk : k < s1) (h400 : s1 ≤ 400) (hI : (kn5 = true → LkOk N pc ht fs la sh5 dk5) ∧ SkL sk5 xs5 ∧ TyL ts5 xs5 ∧ xs5.length + s0 ≤ k ∧ (s0 < s1 → tyR o k (s1 - k) ts5 = some [b]) ∧ evL (lfI N dy pc ht fs la) o g j k (s1 - k) xs5 = evL (lfI N dy pc ht fs la) o g j s0 (s1 - s0) []) (ho : o k = nI 8) (hod : od k = omN 8) (r0 : 8 = 0 → wi k = g k) (rn : (8 = 3 ∨ 8 = 4 ∨ 8 = 5 ∨ 8 = 6 ∨ 8 = 7) → wi k = g k ∧ ∃ h, h < N ∧ g k = nI h) (r6 : 8 = 6 → al k = j k ∧ ∃ h, h < N ∧ j k = nI h) (hty1 : tyC 8 ts5 = some t2) (hty2 : tyR o (k + 1) (s1 - (k + 1)) t2 = some [b]) (ih : ∀ q : Bool × (Nat → Int32) × (Nat → Int32) × (Nat → Int32) × (List Int32) × (List Bool), ((q.1 = true → LkOk N pc ht fs la q.2.1 q.2.2.1) ∧ SkL q.2.2.2.1 q.2.2.2.2.1 ∧ TyL q.2.2.2.2.2 q.2.2.2.2.1 ∧ q.2.2.2.2.1.length + s0 ≤ (k + 1) ∧ (s0 < s1 → tyR o (k + 1) (s1 - (k + 1)) q.2.2.2.2.2 = some [b]) ∧ evL (lfI N dy pc ht fs la) o g j (k + 1) (s1 - (k + 1)) q.2.2.2.2.1 = evL (lfI N dy pc ht fs la) o g j s0 (s1 - s0) []) → Jd Z X (rmK 8) 6 Q (rmK 8).cells (rmK 8).slots 17 [(3, .int (nI q.2.2.2.2.1.length)), (4, .int (nI (k + 1))), (0, .ref (mo 0)), (1, .int (nI y)), (2, .int (nI x))] [] (wMd Z mo pl th sz ea tk dp lr dy ca q.1 tp kd fr me va wo pc ht fs la kh kf kl q.2.1 q.2.2.1 q.2.2.2.1 ++ wPl Z pl (nI N) ls mn hn ha hh dz wh bg en od wi al)) : Jd Z X (rmK 8) 6 Q (rmK 8).cells (rmK 8).slots 35 [(3, .int (nI xs5.length)), (4, .int (nI k)), (0, .ref (mo 0)), (1, .int (nI y)), (2, .int (nI x))] [] (wMd Z mo pl th sz ea tk dp lr dy ca kn5 tp kd fr me va wo pc ht fs la kh kf kl sh5 dk5 sk5 ++ wPl Z pl (nI N) ls mn hn ha hh dz wh bg en od wi al) := by
  obtain ⟨x9, r9, tr9, rfl, -, rfl, hT9, h01⟩ := ty_one (by decide) hty1 hI.2.2.1
  have hl9 := hI.2.2.2.1
  simp only [List.length_cons] at hl9
  refine J_lvm [(3, .int (nI (r9.length + 1))), (4, .int (nI k)), (0, .ref (mo 0)), (1, .int (nI y)), (2, .int (nI x))] (by rfl) ?_
  refine J_aload_n C iX10_sum_35 rfl rfl ?_
  refine J_get (.ref (pl 0)) 0 C iX10_sum_36 gf_X10_20 rfl rfl ?_
  refine J_get (.ref (pl 8)) 17 C iX10_sum_39 gf_X10_198 rfl rfl ?_
  refine J_iload C iX10_sum_42 rfl ?_
  refine J_iald 25 C iX10_sum_44 rfl (vp_in_nI (n := k) (by omega) (by decide)) ?_
  rw [nI_clamp (n := k) (by omega)]
  refine J_istore [(5, .int (od k)), (3, .int (nI (r9.length + 1))), (4, .int (nI k)), (0, .ref (mo 0)), (1, .int (nI y)), (2, .int (nI x))] C iX10_sum_45 (by decide) rfl ?_
  refine J_lvm [(5, .int 105), (3, .int (nI (r9.length + 1))), (4, .int (nI k)), (0, .ref (mo 0)), (1, .int (nI y)), (2, .int (nI x))] (by rw [hod]; rfl) ?_
  refine J_iload C iX10_sum_47 rfl ?_
  refine J_cSp (As := [.int 105]) (st := []) C iX10_sum_49 lm_X10_201 yc_X10_isAsked ys_X10_isAsked (c_X10_isAsked (x := 105)) rfl (rmK_le (by omega) (by decide)) (Nat.le_of_ble_eq_true rfl) ⟨rfl, rfl⟩ ?_
  rintro _ rfl
  refine J_st (.int (b2i (askB 105)) :: []) rfl ?_
  refine J_ifeqb 93 C iX10_sum_52 rfl (fun h52 => ?_) (fun h52 => absurd (h52.symm.trans (by decide : askB 105 = false)) (by decide))
  refine J_iload C iX10_sum_93 rfl ?_
  refine J_bipush 105 C iX10_sum_95 rfl ?_
  refine J_icmpne 120 C iX10_sum_97 rfl (fun h97 => absurd (by decide) h97) (fun h97 => ?_)
  refine J_aload_n C iX10_sum_100 rfl rfl ?_
  refine J_get (.ref (mo 16)) 0 C iX10_sum_101 gf_X10_67 rfl rfl ?_
  refine J_iload_n C iX10_sum_104 rfl rfl ?_
  refine J_iconst 1 C iX10_sum_105 rfl ?_
  refine J_isub C iX10_sum_106 ?_
  rw [show (nI (r9.length + 1)) - 1 = nI r9.length from nI_dec]
  refine J_aload_n C iX10_sum_107 rfl rfl ?_
  refine J_get (.ref (mo 16)) 0 C iX10_sum_108 gf_X10_67 rfl rfl ?_
  refine J_iload_n C iX10_sum_111 rfl rfl ?_
  refine J_iconst 1 C iX10_sum_112 rfl ?_
  refine J_isub C iX10_sum_113 ?_
  rw [show (nI (r9.length + 1)) - 1 = nI r9.length from nI_dec]
  refine J_iald 16 C iX10_sum_114 rfl (vp_in_nI (n := r9.length) (by omega) (by decide)) ?_
  rw [nI_clamp (n := r9.length) (by omega)]
  refine J_st (.int x9 :: .int (nI r9.length) :: .ref (mo 16) :: []) (by rw [show sk5 r9.length = x9 from hI.2.1.1]) ?_
  refine J_ineg C iX10_sum_115 ?_
  refine J_iast (wMd Z mo pl th sz ea tk dp lr dy ca kn5 tp kd fr me va wo pc ht fs la kh kf kl sh5 dk5 (upd sk5 (nI r9.length).toNatClampNeg (-x9)) ++ wPl Z pl (nI N) ls mn hn ha hh dz wh bg en od wi al) 16 C iX10_sum_116 rfl (vp_in_nI (n := r9.length) (by omega) (by decide)) rfl ?_
  rw [nI_clamp (n := r9.length) (by omega)]
  refine J_goto 178 C iX10_sum_117 rfl ?_
  refine J_iinc ((nI k) + 1) [(4, .int ((nI k) + 1)), (5, .int 105), (3, .int (nI (r9.length + 1))), (0, .ref (mo 0)), (1, .int (nI y)), (2, .int (nI x))] C iX10_sum_178 rfl rfl (by decide) rfl ?_
  rw [show (nI k) + 1 = nI (k + 1) from nI_add _ _]
  refine J_goto 17 C iX10_sum_181 rfl ?_
  refine J_lvm [(3, .int (nI (r9.length + 1))), (4, .int (nI (k + 1))), (0, .ref (mo 0)), (1, .int (nI y)), (2, .int (nI x))] rfl ?_
  exact ih (kn5, sh5, dk5, upd sk5 r9.length (-x9), (-x9) :: r9, false :: tr9) (by dsimp only; exact ⟨hI.1, ⟨upd_s, skl_upd (Nat.le_refl _) hI.2.1.2⟩, ⟨(fun q => absurd q (by decide)), hT9⟩, by simp only [List.length_cons]; omega, fun _ => hty2, by rw [← hI.2.2.2.2.2, evL_s hk, ho, evS_8 (by omega)]⟩)

set_option maxRecDepth 100000 in
set_option maxHeartbeats 4000000 in
theorem sum_b9 {Z : GZ} {X : CX} {Q : State → Prop} {mo pl : Nat → Nat} {N : Nat} {th sz ea tk dp lr dy ca ls mn : Int32} {hn va : Nat → Int64} {ha hh dz wh bg en od wi al tp kd fr me wo pc ht fs la kh kf kl : Nat → Int32} {y x s0 s1 k : Nat} {o g j : Nat → Int32} {b : Bool} {kn5 : Bool} {sh5 dk5 sk5 : Nat → Int32} {xs5 : List Int32} {ts5 t2 : List Bool} (C : Cx Z X cX10_sum 6 RX10) (hN : N ≤ 12) (hy : y < 16) (hx : x < 3) (hk0 : s0 ≤ k) (hk : k < s1) (h400 : s1 ≤ 400) (hI : (kn5 = true → LkOk N pc ht fs la sh5 dk5) ∧ SkL sk5 xs5 ∧ TyL ts5 xs5 ∧ xs5.length + s0 ≤ k ∧ (s0 < s1 → tyR o k (s1 - k) ts5 = some [b]) ∧ evL (lfI N dy pc ht fs la) o g j k (s1 - k) xs5 = evL (lfI N dy pc ht fs la) o g j s0 (s1 - s0) []) (ho : o k = nI 9) (hod : od k = omN 9) (r0 : 9 = 0 → wi k = g k) (rn : (9 = 3 ∨ 9 = 4 ∨ 9 = 5 ∨ 9 = 6 ∨ 9 = 7) → wi k = g k ∧ ∃ h, h < N ∧ g k = nI h) (r6 : 9 = 6 → al k = j k ∧ ∃ h, h < N ∧ j k = nI h) (hty1 : tyC 9 ts5 = some t2) (hty2 : tyR o (k + 1) (s1 - (k + 1)) t2 = some [b]) (ih : ∀ q : Bool × (Nat → Int32) × (Nat → Int32) × (Nat → Int32) × (List Int32) × (List Bool), ((q.1 = true → LkOk N pc ht fs la q.2.1 q.2.2.1) ∧ SkL q.2.2.2.1 q.2.2.2.2.1 ∧ TyL q.2.2.2.2.2 q.2.2.2.2.1 ∧ q.2.2.2.2.1.length + s0 ≤ (k + 1) ∧ (s0 < s1 → tyR o (k + 1) (s1 - (k + 1)) q.2.2.2.2.2 = some [b]) ∧ evL (lfI N dy pc ht fs la) o g j (k + 1) (s1 - (k + 1)) q.2.2.2.2.1 = evL (lfI N dy pc ht fs la) o g j s0 (s1 - s0) []) → Jd Z X (rmK 8) 6 Q (rmK 8).cells (rmK 8).slots 17 [(3, .int (nI q.2.2.2.2.1.length)), (4, .int (nI (k + 1))), (0, .ref (mo 0)), (1, .int (nI y)), (2, .int (nI x))] [] (wMd Z mo pl th sz ea tk dp lr dy ca q.1 tp kd fr me va wo pc ht fs la kh kf kl q.2.1 q.2.2.1 q.2.2.2.1 ++ wPl Z pl (nI N) ls mn hn ha hh dz wh bg en od wi al)) : Jd Z X (rmK 8) 6 Q (rmK 8).cells (rmK 8).slots 35 [(3, .int (nI xs5.length)), (4, .int (nI k)), (0, .ref (mo 0)), (1, .int (nI y)), (2, .int (nI x))] [] (wMd Z mo pl th sz ea tk dp lr dy ca kn5 tp kd fr me va wo pc ht fs la kh kf kl sh5 dk5 sk5 ++ wPl Z pl (nI N) ls mn hn ha hh dz wh bg en od wi al) := by
  obtain ⟨x9, r9, tr9, rfl, -, rfl, hT9, h01⟩ := ty_one (by decide) hty1 hI.2.2.1
  have hl9 := hI.2.2.2.1
  simp only [List.length_cons] at hl9
  refine J_lvm [(3, .int (nI (r9.length + 1))), (4, .int (nI k)), (0, .ref (mo 0)), (1, .int (nI y)), (2, .int (nI x))] (by rfl) ?_
  refine J_aload_n C iX10_sum_35 rfl rfl ?_
  refine J_get (.ref (pl 0)) 0 C iX10_sum_36 gf_X10_20 rfl rfl ?_
  refine J_get (.ref (pl 8)) 17 C iX10_sum_39 gf_X10_198 rfl rfl ?_
  refine J_iload C iX10_sum_42 rfl ?_
  refine J_iald 25 C iX10_sum_44 rfl (vp_in_nI (n := k) (by omega) (by decide)) ?_
  rw [nI_clamp (n := k) (by omega)]
  refine J_istore [(5, .int (od k)), (3, .int (nI (r9.length + 1))), (4, .int (nI k)), (0, .ref (mo 0)), (1, .int (nI y)), (2, .int (nI x))] C iX10_sum_45 (by decide) rfl ?_
  refine J_lvm [(5, .int 19), (3, .int (nI (r9.length + 1))), (4, .int (nI k)), (0, .ref (mo 0)), (1, .int (nI y)), (2, .int (nI x))] (by rw [hod]; rfl) ?_
  refine J_iload C iX10_sum_47 rfl ?_
  refine J_cSp (As := [.int 19]) (st := []) C iX10_sum_49 lm_X10_201 yc_X10_isAsked ys_X10_isAsked (c_X10_isAsked (x := 19)) rfl (rmK_le (by omega) (by decide)) (Nat.le_of_ble_eq_true rfl) ⟨rfl, rfl⟩ ?_
  rintro _ rfl
  refine J_st (.int (b2i (askB 19)) :: []) rfl ?_
  refine J_ifeqb 93 C iX10_sum_52 rfl (fun h52 => ?_) (fun h52 => absurd (h52.symm.trans (by decide : askB 19 = false)) (by decide))
  refine J_iload C iX10_sum_93 rfl ?_
  refine J_bipush 105 C iX10_sum_95 rfl ?_
  refine J_icmpne 120 C iX10_sum_97 rfl (fun h97 => ?_) (fun h97 => absurd h97 (by decide))
  refine J_iload C iX10_sum_120 rfl ?_
  refine J_bipush 19 C iX10_sum_122 rfl ?_
  refine J_icmpne 148 C iX10_sum_124 rfl (fun h124 => absurd (by decide) h124) (fun h124 => ?_)
  refine J_aload_n C iX10_sum_127 rfl rfl ?_
  refine J_get (.ref (mo 16)) 0 C iX10_sum_128 gf_X10_67 rfl rfl ?_
  refine J_iload_n C iX10_sum_131 rfl rfl ?_
  refine J_iconst 1 C iX10_sum_132 rfl ?_
  refine J_isub C iX10_sum_133 ?_
  rw [show (nI (r9.length + 1)) - 1 = nI r9.length from nI_dec]
  refine J_iconst 1 C iX10_sum_134 rfl ?_
  refine J_aload_n C iX10_sum_135 rfl rfl ?_
  refine J_get (.ref (mo 16)) 0 C iX10_sum_136 gf_X10_67 rfl rfl ?_
  refine J_iload_n C iX10_sum_139 rfl rfl ?_
  refine J_iconst 1 C iX10_sum_140 rfl ?_
  refine J_isub C iX10_sum_141 ?_
  rw [show (nI (r9.length + 1)) - 1 = nI r9.length from nI_dec]
  refine J_iald 16 C iX10_sum_142 rfl (vp_in_nI (n := r9.length) (by omega) (by decide)) ?_
  rw [nI_clamp (n := r9.length) (by omega)]
  refine J_st (.int x9 :: .int 1 :: .int (nI r9.length) :: .ref (mo 16) :: []) (by rw [show sk5 r9.length = x9 from hI.2.1.1]) ?_
  refine J_isub C iX10_sum_143 ?_
  refine J_iast (wMd Z mo pl th sz ea tk dp lr dy ca kn5 tp kd fr me va wo pc ht fs la kh kf kl sh5 dk5 (upd sk5 (nI r9.length).toNatClampNeg (1 - x9)) ++ wPl Z pl (nI N) ls mn hn ha hh dz wh bg en od wi al) 16 C iX10_sum_144 rfl (vp_in_nI (n := r9.length) (by omega) (by decide)) rfl ?_
  rw [nI_clamp (n := r9.length) (by omega)]
  refine J_goto 178 C iX10_sum_145 rfl ?_
  refine J_iinc ((nI k) + 1) [(4, .int ((nI k) + 1)), (5, .int 19), (3, .int (nI (r9.length + 1))), (0, .ref (mo 0)), (1, .int (nI y)), (2, .int (nI x))] C iX10_sum_178 rfl rfl (by decide) rfl ?_
  rw [show (nI k) + 1 = nI (k + 1) from nI_add _ _]
  refine J_goto 17 C iX10_sum_181 rfl ?_
  refine J_lvm [(3, .int (nI (r9.length + 1))), (4, .int (nI (k + 1))), (0, .ref (mo 0)), (1, .int (nI y)), (2, .int (nI x))] rfl ?_
  exact ih (kn5, sh5, dk5, upd sk5 r9.length (1 - x9), (1 - x9) :: r9, true :: tr9) (by dsimp only; exact ⟨hI.1, ⟨upd_s, skl_upd (Nat.le_refl _) hI.2.1.2⟩, ⟨(fun _ => one_m (h01 rfl)), hT9⟩, by simp only [List.length_cons]; omega, fun _ => hty2, by rw [← hI.2.2.2.2.2, evL_s hk, ho, evS_9 (by omega)]⟩)

set_option maxRecDepth 100000 in
set_option maxHeartbeats 4000000 in
theorem sum_b10 {Z : GZ} {X : CX} {Q : State → Prop} {mo pl : Nat → Nat} {N : Nat} {th sz ea tk dp lr dy ca ls mn : Int32} {hn va : Nat → Int64} {ha hh dz wh bg en od wi al tp kd fr me wo pc ht fs la kh kf kl : Nat → Int32} {y x s0 s1 k : Nat} {o g j : Nat → Int32} {b : Bool} {kn5 : Bool} {sh5 dk5 sk5 : Nat → Int32} {xs5 : List Int32} {ts5 t2 : List Bool} (C : Cx Z X cX10_sum 6 RX10) (hN : N ≤ 12) (hy : y < 16) (hx : x < 3) (hk0 : s0 ≤ k) (hk : k < s1) (h400 : s1 ≤ 400) (hI : (kn5 = true → LkOk N pc ht fs la sh5 dk5) ∧ SkL sk5 xs5 ∧ TyL ts5 xs5 ∧ xs5.length + s0 ≤ k ∧ (s0 < s1 → tyR o k (s1 - k) ts5 = some [b]) ∧ evL (lfI N dy pc ht fs la) o g j k (s1 - k) xs5 = evL (lfI N dy pc ht fs la) o g j s0 (s1 - s0) []) (ho : o k = nI 10) (hod : od k = omN 10) (r0 : 10 = 0 → wi k = g k) (rn : (10 = 3 ∨ 10 = 4 ∨ 10 = 5 ∨ 10 = 6 ∨ 10 = 7) → wi k = g k ∧ ∃ h, h < N ∧ g k = nI h) (r6 : 10 = 6 → al k = j k ∧ ∃ h, h < N ∧ j k = nI h) (hty1 : tyC 10 ts5 = some t2) (hty2 : tyR o (k + 1) (s1 - (k + 1)) t2 = some [b]) (ih : ∀ q : Bool × (Nat → Int32) × (Nat → Int32) × (Nat → Int32) × (List Int32) × (List Bool), ((q.1 = true → LkOk N pc ht fs la q.2.1 q.2.2.1) ∧ SkL q.2.2.2.1 q.2.2.2.2.1 ∧ TyL q.2.2.2.2.2 q.2.2.2.2.1 ∧ q.2.2.2.2.1.length + s0 ≤ (k + 1) ∧ (s0 < s1 → tyR o (k + 1) (s1 - (k + 1)) q.2.2.2.2.2 = some [b]) ∧ evL (lfI N dy pc ht fs la) o g j (k + 1) (s1 - (k + 1)) q.2.2.2.2.1 = evL (lfI N dy pc ht fs la) o g j s0 (s1 - s0) []) → Jd Z X (rmK 8) 6 Q (rmK 8).cells (rmK 8).slots 17 [(3, .int (nI q.2.2.2.2.1.length)), (4, .int (nI (k + 1))), (0, .ref (mo 0)), (1, .int (nI y)), (2, .int (nI x))] [] (wMd Z mo pl th sz ea tk dp lr dy ca q.1 tp kd fr me va wo pc ht fs la kh kf kl q.2.1 q.2.2.1 q.2.2.2.1 ++ wPl Z pl (nI N) ls mn hn ha hh dz wh bg en od wi al)) : Jd Z X (rmK 8) 6 Q (rmK 8).cells (rmK 8).slots 35 [(3, .int (nI xs5.length)), (4, .int (nI k)), (0, .ref (mo 0)), (1, .int (nI y)), (2, .int (nI x))] [] (wMd Z mo pl th sz ea tk dp lr dy ca kn5 tp kd fr me va wo pc ht fs la kh kf kl sh5 dk5 sk5 ++ wPl Z pl (nI N) ls mn hn ha hh dz wh bg en od wi al) := by
  obtain ⟨y9, x9, r9, tr9, rfl, rfl, hT9, h01⟩ := ty_two (by decide) (by decide) hty1 hI.2.2.1
  have hl9 := hI.2.2.2.1
  simp only [List.length_cons] at hl9
  refine J_lvm [(3, .int (nI (r9.length + 2))), (4, .int (nI k)), (0, .ref (mo 0)), (1, .int (nI y)), (2, .int (nI x))] (by rfl) ?_
  refine J_aload_n C iX10_sum_35 rfl rfl ?_
  refine J_get (.ref (pl 0)) 0 C iX10_sum_36 gf_X10_20 rfl rfl ?_
  refine J_get (.ref (pl 8)) 17 C iX10_sum_39 gf_X10_198 rfl rfl ?_
  refine J_iload C iX10_sum_42 rfl ?_
  refine J_iald 25 C iX10_sum_44 rfl (vp_in_nI (n := k) (by omega) (by decide)) ?_
  rw [nI_clamp (n := k) (by omega)]
  refine J_istore [(5, .int (od k)), (3, .int (nI (r9.length + 2))), (4, .int (nI k)), (0, .ref (mo 0)), (1, .int (nI y)), (2, .int (nI x))] C iX10_sum_45 (by decide) rfl ?_
  refine J_lvm [(5, .int 101), (3, .int (nI (r9.length + 2))), (4, .int (nI k)), (0, .ref (mo 0)), (1, .int (nI y)), (2, .int (nI x))] (by rw [hod]; rfl) ?_
  refine J_iload C iX10_sum_47 rfl ?_
  refine J_cSp (As := [.int 101]) (st := []) C iX10_sum_49 lm_X10_201 yc_X10_isAsked ys_X10_isAsked (c_X10_isAsked (x := 101)) rfl (rmK_le (by omega) (by decide)) (Nat.le_of_ble_eq_true rfl) ⟨rfl, rfl⟩ ?_
  rintro _ rfl
  refine J_st (.int (b2i (askB 101)) :: []) rfl ?_
  refine J_ifeqb 93 C iX10_sum_52 rfl (fun h52 => ?_) (fun h52 => absurd (h52.symm.trans (by decide : askB 101 = false)) (by decide))
  refine J_iload C iX10_sum_93 rfl ?_
  refine J_bipush 105 C iX10_sum_95 rfl ?_
  refine J_icmpne 120 C iX10_sum_97 rfl (fun h97 => ?_) (fun h97 => absurd h97 (by decide))
  refine J_iload C iX10_sum_120 rfl ?_
  refine J_bipush 19 C iX10_sum_122 rfl ?_
  refine J_icmpne 148 C iX10_sum_124 rfl (fun h124 => ?_) (fun h124 => absurd h124 (by decide))
  refine J_iinc (nI (r9.length + 2) + (-1)) [(3, .int (nI (r9.length + 2) + (-1))), (5, .int 101), (4, .int (nI k)), (0, .ref (mo 0)), (1, .int (nI y)), (2, .int (nI x))] C iX10_sum_148 rfl rfl (by decide) rfl ?_
  rw [show nI (r9.length + 2) + (-1) = nI (r9.length + 1) from nI_dec2]
  refine J_aload_n C iX10_sum_151 rfl rfl ?_
  refine J_get (.ref (mo 16)) 0 C iX10_sum_152 gf_X10_67 rfl rfl ?_
  refine J_iload_n C iX10_sum_155 rfl rfl ?_
  refine J_iconst 1 C iX10_sum_156 rfl ?_
  refine J_isub C iX10_sum_157 ?_
  rw [show (nI (r9.length + 1)) - 1 = nI r9.length from nI_dec]
  refine J_iload C iX10_sum_158 rfl ?_
  refine J_aload_n C iX10_sum_160 rfl rfl ?_
  refine J_get (.ref (mo 16)) 0 C iX10_sum_161 gf_X10_67 rfl rfl ?_
  refine J_iload_n C iX10_sum_164 rfl rfl ?_
  refine J_iconst 1 C iX10_sum_165 rfl ?_
  refine J_isub C iX10_sum_166 ?_
  rw [show (nI (r9.length + 1)) - 1 = nI r9.length from nI_dec]
  refine J_iald 16 C iX10_sum_167 rfl (vp_in_nI (n := r9.length) (by omega) (by decide)) ?_
  rw [nI_clamp (n := r9.length) (by omega)]
  refine J_aload_n C iX10_sum_168 rfl rfl ?_
  refine J_get (.ref (mo 16)) 0 C iX10_sum_169 gf_X10_67 rfl rfl ?_
  refine J_iload_n C iX10_sum_172 rfl rfl ?_
  refine J_iald 16 C iX10_sum_173 rfl (vp_in_nI (n := (r9.length + 1)) (by omega) (by decide)) ?_
  rw [nI_clamp (n := (r9.length + 1)) (by omega)]
  refine J_st (.int y9 :: .int x9 :: .int 101 :: .int (nI r9.length) :: .ref (mo 16) :: []) (by rw [show sk5 (r9.length + 1) = y9 from hI.2.1.1, show sk5 r9.length = x9 from hI.2.1.2.1]) ?_
  refine J_cSp (As := [.int 101, .int x9, .int y9]) (st := .int (nI r9.length) :: .ref (mo 16) :: []) C iX10_sum_174 lm_X10_214 yc_X10_reckon ys_X10_reckon (c_X10_reckon_10 (a := x9) (b := y9)) rfl (rmK_le (by omega) (by decide)) (Nat.le_of_ble_eq_true rfl) ⟨rfl, rfl⟩ ?_
  rintro _ rfl
  refine J_st (.int (rcM 10 x9 y9) :: .int (nI r9.length) :: .ref (mo 16) :: []) rfl ?_
  refine J_iast (wMd Z mo pl th sz ea tk dp lr dy ca kn5 tp kd fr me va wo pc ht fs la kh kf kl sh5 dk5 (upd sk5 (nI r9.length).toNatClampNeg (rcM 10 x9 y9)) ++ wPl Z pl (nI N) ls mn hn ha hh dz wh bg en od wi al) 16 C iX10_sum_177 rfl (vp_in_nI (n := r9.length) (by omega) (by decide)) rfl ?_
  rw [nI_clamp (n := r9.length) (by omega)]
  refine J_iinc ((nI k) + 1) [(4, .int ((nI k) + 1)), (3, .int (nI (r9.length + 1))), (5, .int 101), (0, .ref (mo 0)), (1, .int (nI y)), (2, .int (nI x))] C iX10_sum_178 rfl rfl (by decide) rfl ?_
  rw [show (nI k) + 1 = nI (k + 1) from nI_add _ _]
  refine J_goto 17 C iX10_sum_181 rfl ?_
  refine J_lvm [(3, .int (nI (r9.length + 1))), (4, .int (nI (k + 1))), (0, .ref (mo 0)), (1, .int (nI y)), (2, .int (nI x))] rfl ?_
  exact ih (kn5, sh5, dk5, upd sk5 r9.length (rcM 10 x9 y9), (rcM 10 x9 y9) :: r9, false :: tr9) (by dsimp only; exact ⟨hI.1, ⟨upd_s, skl_upd (Nat.le_refl _) hI.2.1.2.2⟩, ⟨(fun q => absurd q (by decide)), hT9⟩, by simp only [List.length_cons]; omega, fun _ => hty2, by rw [← hI.2.2.2.2.2, evL_s hk, ho, evS_two (by decide) (by decide) (by omega) h01]⟩)

set_option maxRecDepth 100000 in
set_option maxHeartbeats 4000000 in
theorem sum_b11 {Z : GZ} {X : CX} {Q : State → Prop} {mo pl : Nat → Nat} {N : Nat} {th sz ea tk dp lr dy ca ls mn : Int32} {hn va : Nat → Int64} {ha hh dz wh bg en od wi al tp kd fr me wo pc ht fs la kh kf kl : Nat → Int32} {y x s0 s1 k : Nat} {o g j : Nat → Int32} {b : Bool} {kn5 : Bool} {sh5 dk5 sk5 : Nat → Int32} {xs5 : List Int32} {ts5 t2 : List Bool} (C : Cx Z X cX10_sum 6 RX10) (hN : N ≤ 12) (hy : y < 16) (hx : x < 3) (hk0 : s0 ≤ k) (hk : k < s1) (h400 : s1 ≤ 400) (hI : (kn5 = true → LkOk N pc ht fs la sh5 dk5) ∧ SkL sk5 xs5 ∧ TyL ts5 xs5 ∧ xs5.length + s0 ≤ k ∧ (s0 < s1 → tyR o k (s1 - k) ts5 = some [b]) ∧ evL (lfI N dy pc ht fs la) o g j k (s1 - k) xs5 = evL (lfI N dy pc ht fs la) o g j s0 (s1 - s0) []) (ho : o k = nI 11) (hod : od k = omN 11) (r0 : 11 = 0 → wi k = g k) (rn : (11 = 3 ∨ 11 = 4 ∨ 11 = 5 ∨ 11 = 6 ∨ 11 = 7) → wi k = g k ∧ ∃ h, h < N ∧ g k = nI h) (r6 : 11 = 6 → al k = j k ∧ ∃ h, h < N ∧ j k = nI h) (hty1 : tyC 11 ts5 = some t2) (hty2 : tyR o (k + 1) (s1 - (k + 1)) t2 = some [b]) (ih : ∀ q : Bool × (Nat → Int32) × (Nat → Int32) × (Nat → Int32) × (List Int32) × (List Bool), ((q.1 = true → LkOk N pc ht fs la q.2.1 q.2.2.1) ∧ SkL q.2.2.2.1 q.2.2.2.2.1 ∧ TyL q.2.2.2.2.2 q.2.2.2.2.1 ∧ q.2.2.2.2.1.length + s0 ≤ (k + 1) ∧ (s0 < s1 → tyR o (k + 1) (s1 - (k + 1)) q.2.2.2.2.2 = some [b]) ∧ evL (lfI N dy pc ht fs la) o g j (k + 1) (s1 - (k + 1)) q.2.2.2.2.1 = evL (lfI N dy pc ht fs la) o g j s0 (s1 - s0) []) → Jd Z X (rmK 8) 6 Q (rmK 8).cells (rmK 8).slots 17 [(3, .int (nI q.2.2.2.2.1.length)), (4, .int (nI (k + 1))), (0, .ref (mo 0)), (1, .int (nI y)), (2, .int (nI x))] [] (wMd Z mo pl th sz ea tk dp lr dy ca q.1 tp kd fr me va wo pc ht fs la kh kf kl q.2.1 q.2.2.1 q.2.2.2.1 ++ wPl Z pl (nI N) ls mn hn ha hh dz wh bg en od wi al)) : Jd Z X (rmK 8) 6 Q (rmK 8).cells (rmK 8).slots 35 [(3, .int (nI xs5.length)), (4, .int (nI k)), (0, .ref (mo 0)), (1, .int (nI y)), (2, .int (nI x))] [] (wMd Z mo pl th sz ea tk dp lr dy ca kn5 tp kd fr me va wo pc ht fs la kh kf kl sh5 dk5 sk5 ++ wPl Z pl (nI N) ls mn hn ha hh dz wh bg en od wi al) := by
  obtain ⟨y9, x9, r9, tr9, rfl, rfl, hT9, h01⟩ := ty_two (by decide) (by decide) hty1 hI.2.2.1
  have hl9 := hI.2.2.2.1
  simp only [List.length_cons] at hl9
  refine J_lvm [(3, .int (nI (r9.length + 2))), (4, .int (nI k)), (0, .ref (mo 0)), (1, .int (nI y)), (2, .int (nI x))] (by rfl) ?_
  refine J_aload_n C iX10_sum_35 rfl rfl ?_
  refine J_get (.ref (pl 0)) 0 C iX10_sum_36 gf_X10_20 rfl rfl ?_
  refine J_get (.ref (pl 8)) 17 C iX10_sum_39 gf_X10_198 rfl rfl ?_
  refine J_iload C iX10_sum_42 rfl ?_
  refine J_iald 25 C iX10_sum_44 rfl (vp_in_nI (n := k) (by omega) (by decide)) ?_
  rw [nI_clamp (n := k) (by omega)]
  refine J_istore [(5, .int (od k)), (3, .int (nI (r9.length + 2))), (4, .int (nI k)), (0, .ref (mo 0)), (1, .int (nI y)), (2, .int (nI x))] C iX10_sum_45 (by decide) rfl ?_
  refine J_lvm [(5, .int 102), (3, .int (nI (r9.length + 2))), (4, .int (nI k)), (0, .ref (mo 0)), (1, .int (nI y)), (2, .int (nI x))] (by rw [hod]; rfl) ?_
  refine J_iload C iX10_sum_47 rfl ?_
  refine J_cSp (As := [.int 102]) (st := []) C iX10_sum_49 lm_X10_201 yc_X10_isAsked ys_X10_isAsked (c_X10_isAsked (x := 102)) rfl (rmK_le (by omega) (by decide)) (Nat.le_of_ble_eq_true rfl) ⟨rfl, rfl⟩ ?_
  rintro _ rfl
  refine J_st (.int (b2i (askB 102)) :: []) rfl ?_
  refine J_ifeqb 93 C iX10_sum_52 rfl (fun h52 => ?_) (fun h52 => absurd (h52.symm.trans (by decide : askB 102 = false)) (by decide))
  refine J_iload C iX10_sum_93 rfl ?_
  refine J_bipush 105 C iX10_sum_95 rfl ?_
  refine J_icmpne 120 C iX10_sum_97 rfl (fun h97 => ?_) (fun h97 => absurd h97 (by decide))
  refine J_iload C iX10_sum_120 rfl ?_
  refine J_bipush 19 C iX10_sum_122 rfl ?_
  refine J_icmpne 148 C iX10_sum_124 rfl (fun h124 => ?_) (fun h124 => absurd h124 (by decide))
  refine J_iinc (nI (r9.length + 2) + (-1)) [(3, .int (nI (r9.length + 2) + (-1))), (5, .int 102), (4, .int (nI k)), (0, .ref (mo 0)), (1, .int (nI y)), (2, .int (nI x))] C iX10_sum_148 rfl rfl (by decide) rfl ?_
  rw [show nI (r9.length + 2) + (-1) = nI (r9.length + 1) from nI_dec2]
  refine J_aload_n C iX10_sum_151 rfl rfl ?_
  refine J_get (.ref (mo 16)) 0 C iX10_sum_152 gf_X10_67 rfl rfl ?_
  refine J_iload_n C iX10_sum_155 rfl rfl ?_
  refine J_iconst 1 C iX10_sum_156 rfl ?_
  refine J_isub C iX10_sum_157 ?_
  rw [show (nI (r9.length + 1)) - 1 = nI r9.length from nI_dec]
  refine J_iload C iX10_sum_158 rfl ?_
  refine J_aload_n C iX10_sum_160 rfl rfl ?_
  refine J_get (.ref (mo 16)) 0 C iX10_sum_161 gf_X10_67 rfl rfl ?_
  refine J_iload_n C iX10_sum_164 rfl rfl ?_
  refine J_iconst 1 C iX10_sum_165 rfl ?_
  refine J_isub C iX10_sum_166 ?_
  rw [show (nI (r9.length + 1)) - 1 = nI r9.length from nI_dec]
  refine J_iald 16 C iX10_sum_167 rfl (vp_in_nI (n := r9.length) (by omega) (by decide)) ?_
  rw [nI_clamp (n := r9.length) (by omega)]
  refine J_aload_n C iX10_sum_168 rfl rfl ?_
  refine J_get (.ref (mo 16)) 0 C iX10_sum_169 gf_X10_67 rfl rfl ?_
  refine J_iload_n C iX10_sum_172 rfl rfl ?_
  refine J_iald 16 C iX10_sum_173 rfl (vp_in_nI (n := (r9.length + 1)) (by omega) (by decide)) ?_
  rw [nI_clamp (n := (r9.length + 1)) (by omega)]
  refine J_st (.int y9 :: .int x9 :: .int 102 :: .int (nI r9.length) :: .ref (mo 16) :: []) (by rw [show sk5 (r9.length + 1) = y9 from hI.2.1.1, show sk5 r9.length = x9 from hI.2.1.2.1]) ?_
  refine J_cSp (As := [.int 102, .int x9, .int y9]) (st := .int (nI r9.length) :: .ref (mo 16) :: []) C iX10_sum_174 lm_X10_214 yc_X10_reckon ys_X10_reckon (c_X10_reckon_11 (a := x9) (b := y9)) rfl (rmK_le (by omega) (by decide)) (Nat.le_of_ble_eq_true rfl) ⟨rfl, rfl⟩ ?_
  rintro _ rfl
  refine J_st (.int (rcM 11 x9 y9) :: .int (nI r9.length) :: .ref (mo 16) :: []) rfl ?_
  refine J_iast (wMd Z mo pl th sz ea tk dp lr dy ca kn5 tp kd fr me va wo pc ht fs la kh kf kl sh5 dk5 (upd sk5 (nI r9.length).toNatClampNeg (rcM 11 x9 y9)) ++ wPl Z pl (nI N) ls mn hn ha hh dz wh bg en od wi al) 16 C iX10_sum_177 rfl (vp_in_nI (n := r9.length) (by omega) (by decide)) rfl ?_
  rw [nI_clamp (n := r9.length) (by omega)]
  refine J_iinc ((nI k) + 1) [(4, .int ((nI k) + 1)), (3, .int (nI (r9.length + 1))), (5, .int 102), (0, .ref (mo 0)), (1, .int (nI y)), (2, .int (nI x))] C iX10_sum_178 rfl rfl (by decide) rfl ?_
  rw [show (nI k) + 1 = nI (k + 1) from nI_add _ _]
  refine J_goto 17 C iX10_sum_181 rfl ?_
  refine J_lvm [(3, .int (nI (r9.length + 1))), (4, .int (nI (k + 1))), (0, .ref (mo 0)), (1, .int (nI y)), (2, .int (nI x))] rfl ?_
  exact ih (kn5, sh5, dk5, upd sk5 r9.length (rcM 11 x9 y9), (rcM 11 x9 y9) :: r9, false :: tr9) (by dsimp only; exact ⟨hI.1, ⟨upd_s, skl_upd (Nat.le_refl _) hI.2.1.2.2⟩, ⟨(fun q => absurd q (by decide)), hT9⟩, by simp only [List.length_cons]; omega, fun _ => hty2, by rw [← hI.2.2.2.2.2, evL_s hk, ho, evS_two (by decide) (by decide) (by omega) h01]⟩)

set_option maxRecDepth 100000 in
set_option maxHeartbeats 4000000 in
theorem sum_b12 {Z : GZ} {X : CX} {Q : State → Prop} {mo pl : Nat → Nat} {N : Nat} {th sz ea tk dp lr dy ca ls mn : Int32} {hn va : Nat → Int64} {ha hh dz wh bg en od wi al tp kd fr me wo pc ht fs la kh kf kl : Nat → Int32} {y x s0 s1 k : Nat} {o g j : Nat → Int32} {b : Bool} {kn5 : Bool} {sh5 dk5 sk5 : Nat → Int32} {xs5 : List Int32} {ts5 t2 : List Bool} (C : Cx Z X cX10_sum 6 RX10) (hN : N ≤ 12) (hy : y < 16) (hx : x < 3) (hk0 : s0 ≤ k) (hk : k < s1) (h400 : s1 ≤ 400) (hI : (kn5 = true → LkOk N pc ht fs la sh5 dk5) ∧ SkL sk5 xs5 ∧ TyL ts5 xs5 ∧ xs5.length + s0 ≤ k ∧ (s0 < s1 → tyR o k (s1 - k) ts5 = some [b]) ∧ evL (lfI N dy pc ht fs la) o g j k (s1 - k) xs5 = evL (lfI N dy pc ht fs la) o g j s0 (s1 - s0) []) (ho : o k = nI 12) (hod : od k = omN 12) (r0 : 12 = 0 → wi k = g k) (rn : (12 = 3 ∨ 12 = 4 ∨ 12 = 5 ∨ 12 = 6 ∨ 12 = 7) → wi k = g k ∧ ∃ h, h < N ∧ g k = nI h) (r6 : 12 = 6 → al k = j k ∧ ∃ h, h < N ∧ j k = nI h) (hty1 : tyC 12 ts5 = some t2) (hty2 : tyR o (k + 1) (s1 - (k + 1)) t2 = some [b]) (ih : ∀ q : Bool × (Nat → Int32) × (Nat → Int32) × (Nat → Int32) × (List Int32) × (List Bool), ((q.1 = true → LkOk N pc ht fs la q.2.1 q.2.2.1) ∧ SkL q.2.2.2.1 q.2.2.2.2.1 ∧ TyL q.2.2.2.2.2 q.2.2.2.2.1 ∧ q.2.2.2.2.1.length + s0 ≤ (k + 1) ∧ (s0 < s1 → tyR o (k + 1) (s1 - (k + 1)) q.2.2.2.2.2 = some [b]) ∧ evL (lfI N dy pc ht fs la) o g j (k + 1) (s1 - (k + 1)) q.2.2.2.2.1 = evL (lfI N dy pc ht fs la) o g j s0 (s1 - s0) []) → Jd Z X (rmK 8) 6 Q (rmK 8).cells (rmK 8).slots 17 [(3, .int (nI q.2.2.2.2.1.length)), (4, .int (nI (k + 1))), (0, .ref (mo 0)), (1, .int (nI y)), (2, .int (nI x))] [] (wMd Z mo pl th sz ea tk dp lr dy ca q.1 tp kd fr me va wo pc ht fs la kh kf kl q.2.1 q.2.2.1 q.2.2.2.1 ++ wPl Z pl (nI N) ls mn hn ha hh dz wh bg en od wi al)) : Jd Z X (rmK 8) 6 Q (rmK 8).cells (rmK 8).slots 35 [(3, .int (nI xs5.length)), (4, .int (nI k)), (0, .ref (mo 0)), (1, .int (nI y)), (2, .int (nI x))] [] (wMd Z mo pl th sz ea tk dp lr dy ca kn5 tp kd fr me va wo pc ht fs la kh kf kl sh5 dk5 sk5 ++ wPl Z pl (nI N) ls mn hn ha hh dz wh bg en od wi al) := by
  obtain ⟨y9, x9, r9, tr9, rfl, rfl, hT9, h01⟩ := ty_two (by decide) (by decide) hty1 hI.2.2.1
  have hl9 := hI.2.2.2.1
  simp only [List.length_cons] at hl9
  refine J_lvm [(3, .int (nI (r9.length + 2))), (4, .int (nI k)), (0, .ref (mo 0)), (1, .int (nI y)), (2, .int (nI x))] (by rfl) ?_
  refine J_aload_n C iX10_sum_35 rfl rfl ?_
  refine J_get (.ref (pl 0)) 0 C iX10_sum_36 gf_X10_20 rfl rfl ?_
  refine J_get (.ref (pl 8)) 17 C iX10_sum_39 gf_X10_198 rfl rfl ?_
  refine J_iload C iX10_sum_42 rfl ?_
  refine J_iald 25 C iX10_sum_44 rfl (vp_in_nI (n := k) (by omega) (by decide)) ?_
  rw [nI_clamp (n := k) (by omega)]
  refine J_istore [(5, .int (od k)), (3, .int (nI (r9.length + 2))), (4, .int (nI k)), (0, .ref (mo 0)), (1, .int (nI y)), (2, .int (nI x))] C iX10_sum_45 (by decide) rfl ?_
  refine J_lvm [(5, .int 103), (3, .int (nI (r9.length + 2))), (4, .int (nI k)), (0, .ref (mo 0)), (1, .int (nI y)), (2, .int (nI x))] (by rw [hod]; rfl) ?_
  refine J_iload C iX10_sum_47 rfl ?_
  refine J_cSp (As := [.int 103]) (st := []) C iX10_sum_49 lm_X10_201 yc_X10_isAsked ys_X10_isAsked (c_X10_isAsked (x := 103)) rfl (rmK_le (by omega) (by decide)) (Nat.le_of_ble_eq_true rfl) ⟨rfl, rfl⟩ ?_
  rintro _ rfl
  refine J_st (.int (b2i (askB 103)) :: []) rfl ?_
  refine J_ifeqb 93 C iX10_sum_52 rfl (fun h52 => ?_) (fun h52 => absurd (h52.symm.trans (by decide : askB 103 = false)) (by decide))
  refine J_iload C iX10_sum_93 rfl ?_
  refine J_bipush 105 C iX10_sum_95 rfl ?_
  refine J_icmpne 120 C iX10_sum_97 rfl (fun h97 => ?_) (fun h97 => absurd h97 (by decide))
  refine J_iload C iX10_sum_120 rfl ?_
  refine J_bipush 19 C iX10_sum_122 rfl ?_
  refine J_icmpne 148 C iX10_sum_124 rfl (fun h124 => ?_) (fun h124 => absurd h124 (by decide))
  refine J_iinc (nI (r9.length + 2) + (-1)) [(3, .int (nI (r9.length + 2) + (-1))), (5, .int 103), (4, .int (nI k)), (0, .ref (mo 0)), (1, .int (nI y)), (2, .int (nI x))] C iX10_sum_148 rfl rfl (by decide) rfl ?_
  rw [show nI (r9.length + 2) + (-1) = nI (r9.length + 1) from nI_dec2]
  refine J_aload_n C iX10_sum_151 rfl rfl ?_
  refine J_get (.ref (mo 16)) 0 C iX10_sum_152 gf_X10_67 rfl rfl ?_
  refine J_iload_n C iX10_sum_155 rfl rfl ?_
  refine J_iconst 1 C iX10_sum_156 rfl ?_
  refine J_isub C iX10_sum_157 ?_
  rw [show (nI (r9.length + 1)) - 1 = nI r9.length from nI_dec]
  refine J_iload C iX10_sum_158 rfl ?_
  refine J_aload_n C iX10_sum_160 rfl rfl ?_
  refine J_get (.ref (mo 16)) 0 C iX10_sum_161 gf_X10_67 rfl rfl ?_
  refine J_iload_n C iX10_sum_164 rfl rfl ?_
  refine J_iconst 1 C iX10_sum_165 rfl ?_
  refine J_isub C iX10_sum_166 ?_
  rw [show (nI (r9.length + 1)) - 1 = nI r9.length from nI_dec]
  refine J_iald 16 C iX10_sum_167 rfl (vp_in_nI (n := r9.length) (by omega) (by decide)) ?_
  rw [nI_clamp (n := r9.length) (by omega)]
  refine J_aload_n C iX10_sum_168 rfl rfl ?_
  refine J_get (.ref (mo 16)) 0 C iX10_sum_169 gf_X10_67 rfl rfl ?_
  refine J_iload_n C iX10_sum_172 rfl rfl ?_
  refine J_iald 16 C iX10_sum_173 rfl (vp_in_nI (n := (r9.length + 1)) (by omega) (by decide)) ?_
  rw [nI_clamp (n := (r9.length + 1)) (by omega)]
  refine J_st (.int y9 :: .int x9 :: .int 103 :: .int (nI r9.length) :: .ref (mo 16) :: []) (by rw [show sk5 (r9.length + 1) = y9 from hI.2.1.1, show sk5 r9.length = x9 from hI.2.1.2.1]) ?_
  refine J_cSp (As := [.int 103, .int x9, .int y9]) (st := .int (nI r9.length) :: .ref (mo 16) :: []) C iX10_sum_174 lm_X10_214 yc_X10_reckon ys_X10_reckon (c_X10_reckon_12 (a := x9) (b := y9)) rfl (rmK_le (by omega) (by decide)) (Nat.le_of_ble_eq_true rfl) ⟨rfl, rfl⟩ ?_
  rintro _ rfl
  refine J_st (.int (rcM 12 x9 y9) :: .int (nI r9.length) :: .ref (mo 16) :: []) rfl ?_
  refine J_iast (wMd Z mo pl th sz ea tk dp lr dy ca kn5 tp kd fr me va wo pc ht fs la kh kf kl sh5 dk5 (upd sk5 (nI r9.length).toNatClampNeg (rcM 12 x9 y9)) ++ wPl Z pl (nI N) ls mn hn ha hh dz wh bg en od wi al) 16 C iX10_sum_177 rfl (vp_in_nI (n := r9.length) (by omega) (by decide)) rfl ?_
  rw [nI_clamp (n := r9.length) (by omega)]
  refine J_iinc ((nI k) + 1) [(4, .int ((nI k) + 1)), (3, .int (nI (r9.length + 1))), (5, .int 103), (0, .ref (mo 0)), (1, .int (nI y)), (2, .int (nI x))] C iX10_sum_178 rfl rfl (by decide) rfl ?_
  rw [show (nI k) + 1 = nI (k + 1) from nI_add _ _]
  refine J_goto 17 C iX10_sum_181 rfl ?_
  refine J_lvm [(3, .int (nI (r9.length + 1))), (4, .int (nI (k + 1))), (0, .ref (mo 0)), (1, .int (nI y)), (2, .int (nI x))] rfl ?_
  exact ih (kn5, sh5, dk5, upd sk5 r9.length (rcM 12 x9 y9), (rcM 12 x9 y9) :: r9, false :: tr9) (by dsimp only; exact ⟨hI.1, ⟨upd_s, skl_upd (Nat.le_refl _) hI.2.1.2.2⟩, ⟨(fun q => absurd q (by decide)), hT9⟩, by simp only [List.length_cons]; omega, fun _ => hty2, by rw [← hI.2.2.2.2.2, evL_s hk, ho, evS_two (by decide) (by decide) (by omega) h01]⟩)

set_option maxRecDepth 100000 in
set_option maxHeartbeats 4000000 in
theorem sum_b13 {Z : GZ} {X : CX} {Q : State → Prop} {mo pl : Nat → Nat} {N : Nat} {th sz ea tk dp lr dy ca ls mn : Int32} {hn va : Nat → Int64} {ha hh dz wh bg en od wi al tp kd fr me wo pc ht fs la kh kf kl : Nat → Int32} {y x s0 s1 k : Nat} {o g j : Nat → Int32} {b : Bool} {kn5 : Bool} {sh5 dk5 sk5 : Nat → Int32} {xs5 : List Int32} {ts5 t2 : List Bool} (C : Cx Z X cX10_sum 6 RX10) (hN : N ≤ 12) (hy : y < 16) (hx : x < 3) (hk0 : s0 ≤ k) (hk : k < s1) (h400 : s1 ≤ 400) (hI : (kn5 = true → LkOk N pc ht fs la sh5 dk5) ∧ SkL sk5 xs5 ∧ TyL ts5 xs5 ∧ xs5.length + s0 ≤ k ∧ (s0 < s1 → tyR o k (s1 - k) ts5 = some [b]) ∧ evL (lfI N dy pc ht fs la) o g j k (s1 - k) xs5 = evL (lfI N dy pc ht fs la) o g j s0 (s1 - s0) []) (ho : o k = nI 13) (hod : od k = omN 13) (r0 : 13 = 0 → wi k = g k) (rn : (13 = 3 ∨ 13 = 4 ∨ 13 = 5 ∨ 13 = 6 ∨ 13 = 7) → wi k = g k ∧ ∃ h, h < N ∧ g k = nI h) (r6 : 13 = 6 → al k = j k ∧ ∃ h, h < N ∧ j k = nI h) (hty1 : tyC 13 ts5 = some t2) (hty2 : tyR o (k + 1) (s1 - (k + 1)) t2 = some [b]) (ih : ∀ q : Bool × (Nat → Int32) × (Nat → Int32) × (Nat → Int32) × (List Int32) × (List Bool), ((q.1 = true → LkOk N pc ht fs la q.2.1 q.2.2.1) ∧ SkL q.2.2.2.1 q.2.2.2.2.1 ∧ TyL q.2.2.2.2.2 q.2.2.2.2.1 ∧ q.2.2.2.2.1.length + s0 ≤ (k + 1) ∧ (s0 < s1 → tyR o (k + 1) (s1 - (k + 1)) q.2.2.2.2.2 = some [b]) ∧ evL (lfI N dy pc ht fs la) o g j (k + 1) (s1 - (k + 1)) q.2.2.2.2.1 = evL (lfI N dy pc ht fs la) o g j s0 (s1 - s0) []) → Jd Z X (rmK 8) 6 Q (rmK 8).cells (rmK 8).slots 17 [(3, .int (nI q.2.2.2.2.1.length)), (4, .int (nI (k + 1))), (0, .ref (mo 0)), (1, .int (nI y)), (2, .int (nI x))] [] (wMd Z mo pl th sz ea tk dp lr dy ca q.1 tp kd fr me va wo pc ht fs la kh kf kl q.2.1 q.2.2.1 q.2.2.2.1 ++ wPl Z pl (nI N) ls mn hn ha hh dz wh bg en od wi al)) : Jd Z X (rmK 8) 6 Q (rmK 8).cells (rmK 8).slots 35 [(3, .int (nI xs5.length)), (4, .int (nI k)), (0, .ref (mo 0)), (1, .int (nI y)), (2, .int (nI x))] [] (wMd Z mo pl th sz ea tk dp lr dy ca kn5 tp kd fr me va wo pc ht fs la kh kf kl sh5 dk5 sk5 ++ wPl Z pl (nI N) ls mn hn ha hh dz wh bg en od wi al) := by
  obtain ⟨y9, x9, r9, tr9, rfl, rfl, hT9, h01⟩ := ty_two (by decide) (by decide) hty1 hI.2.2.1
  have hl9 := hI.2.2.2.1
  simp only [List.length_cons] at hl9
  refine J_lvm [(3, .int (nI (r9.length + 2))), (4, .int (nI k)), (0, .ref (mo 0)), (1, .int (nI y)), (2, .int (nI x))] (by rfl) ?_
  refine J_aload_n C iX10_sum_35 rfl rfl ?_
  refine J_get (.ref (pl 0)) 0 C iX10_sum_36 gf_X10_20 rfl rfl ?_
  refine J_get (.ref (pl 8)) 17 C iX10_sum_39 gf_X10_198 rfl rfl ?_
  refine J_iload C iX10_sum_42 rfl ?_
  refine J_iald 25 C iX10_sum_44 rfl (vp_in_nI (n := k) (by omega) (by decide)) ?_
  rw [nI_clamp (n := k) (by omega)]
  refine J_istore [(5, .int (od k)), (3, .int (nI (r9.length + 2))), (4, .int (nI k)), (0, .ref (mo 0)), (1, .int (nI y)), (2, .int (nI x))] C iX10_sum_45 (by decide) rfl ?_
  refine J_lvm [(5, .int 104), (3, .int (nI (r9.length + 2))), (4, .int (nI k)), (0, .ref (mo 0)), (1, .int (nI y)), (2, .int (nI x))] (by rw [hod]; rfl) ?_
  refine J_iload C iX10_sum_47 rfl ?_
  refine J_cSp (As := [.int 104]) (st := []) C iX10_sum_49 lm_X10_201 yc_X10_isAsked ys_X10_isAsked (c_X10_isAsked (x := 104)) rfl (rmK_le (by omega) (by decide)) (Nat.le_of_ble_eq_true rfl) ⟨rfl, rfl⟩ ?_
  rintro _ rfl
  refine J_st (.int (b2i (askB 104)) :: []) rfl ?_
  refine J_ifeqb 93 C iX10_sum_52 rfl (fun h52 => ?_) (fun h52 => absurd (h52.symm.trans (by decide : askB 104 = false)) (by decide))
  refine J_iload C iX10_sum_93 rfl ?_
  refine J_bipush 105 C iX10_sum_95 rfl ?_
  refine J_icmpne 120 C iX10_sum_97 rfl (fun h97 => ?_) (fun h97 => absurd h97 (by decide))
  refine J_iload C iX10_sum_120 rfl ?_
  refine J_bipush 19 C iX10_sum_122 rfl ?_
  refine J_icmpne 148 C iX10_sum_124 rfl (fun h124 => ?_) (fun h124 => absurd h124 (by decide))
  refine J_iinc (nI (r9.length + 2) + (-1)) [(3, .int (nI (r9.length + 2) + (-1))), (5, .int 104), (4, .int (nI k)), (0, .ref (mo 0)), (1, .int (nI y)), (2, .int (nI x))] C iX10_sum_148 rfl rfl (by decide) rfl ?_
  rw [show nI (r9.length + 2) + (-1) = nI (r9.length + 1) from nI_dec2]
  refine J_aload_n C iX10_sum_151 rfl rfl ?_
  refine J_get (.ref (mo 16)) 0 C iX10_sum_152 gf_X10_67 rfl rfl ?_
  refine J_iload_n C iX10_sum_155 rfl rfl ?_
  refine J_iconst 1 C iX10_sum_156 rfl ?_
  refine J_isub C iX10_sum_157 ?_
  rw [show (nI (r9.length + 1)) - 1 = nI r9.length from nI_dec]
  refine J_iload C iX10_sum_158 rfl ?_
  refine J_aload_n C iX10_sum_160 rfl rfl ?_
  refine J_get (.ref (mo 16)) 0 C iX10_sum_161 gf_X10_67 rfl rfl ?_
  refine J_iload_n C iX10_sum_164 rfl rfl ?_
  refine J_iconst 1 C iX10_sum_165 rfl ?_
  refine J_isub C iX10_sum_166 ?_
  rw [show (nI (r9.length + 1)) - 1 = nI r9.length from nI_dec]
  refine J_iald 16 C iX10_sum_167 rfl (vp_in_nI (n := r9.length) (by omega) (by decide)) ?_
  rw [nI_clamp (n := r9.length) (by omega)]
  refine J_aload_n C iX10_sum_168 rfl rfl ?_
  refine J_get (.ref (mo 16)) 0 C iX10_sum_169 gf_X10_67 rfl rfl ?_
  refine J_iload_n C iX10_sum_172 rfl rfl ?_
  refine J_iald 16 C iX10_sum_173 rfl (vp_in_nI (n := (r9.length + 1)) (by omega) (by decide)) ?_
  rw [nI_clamp (n := (r9.length + 1)) (by omega)]
  refine J_st (.int y9 :: .int x9 :: .int 104 :: .int (nI r9.length) :: .ref (mo 16) :: []) (by rw [show sk5 (r9.length + 1) = y9 from hI.2.1.1, show sk5 r9.length = x9 from hI.2.1.2.1]) ?_
  refine J_cSp (As := [.int 104, .int x9, .int y9]) (st := .int (nI r9.length) :: .ref (mo 16) :: []) C iX10_sum_174 lm_X10_214 yc_X10_reckon ys_X10_reckon (c_X10_reckon_13 (a := x9) (b := y9)) rfl (rmK_le (by omega) (by decide)) (Nat.le_of_ble_eq_true rfl) ⟨rfl, rfl⟩ ?_
  rintro _ rfl
  refine J_st (.int (rcM 13 x9 y9) :: .int (nI r9.length) :: .ref (mo 16) :: []) rfl ?_
  refine J_iast (wMd Z mo pl th sz ea tk dp lr dy ca kn5 tp kd fr me va wo pc ht fs la kh kf kl sh5 dk5 (upd sk5 (nI r9.length).toNatClampNeg (rcM 13 x9 y9)) ++ wPl Z pl (nI N) ls mn hn ha hh dz wh bg en od wi al) 16 C iX10_sum_177 rfl (vp_in_nI (n := r9.length) (by omega) (by decide)) rfl ?_
  rw [nI_clamp (n := r9.length) (by omega)]
  refine J_iinc ((nI k) + 1) [(4, .int ((nI k) + 1)), (3, .int (nI (r9.length + 1))), (5, .int 104), (0, .ref (mo 0)), (1, .int (nI y)), (2, .int (nI x))] C iX10_sum_178 rfl rfl (by decide) rfl ?_
  rw [show (nI k) + 1 = nI (k + 1) from nI_add _ _]
  refine J_goto 17 C iX10_sum_181 rfl ?_
  refine J_lvm [(3, .int (nI (r9.length + 1))), (4, .int (nI (k + 1))), (0, .ref (mo 0)), (1, .int (nI y)), (2, .int (nI x))] rfl ?_
  exact ih (kn5, sh5, dk5, upd sk5 r9.length (rcM 13 x9 y9), (rcM 13 x9 y9) :: r9, false :: tr9) (by dsimp only; exact ⟨hI.1, ⟨upd_s, skl_upd (Nat.le_refl _) hI.2.1.2.2⟩, ⟨(fun q => absurd q (by decide)), hT9⟩, by simp only [List.length_cons]; omega, fun _ => hty2, by rw [← hI.2.2.2.2.2, evL_s hk, ho, evS_two (by decide) (by decide) (by omega) h01]⟩)

set_option maxRecDepth 100000 in
set_option maxHeartbeats 4000000 in
theorem sum_b14 {Z : GZ} {X : CX} {Q : State → Prop} {mo pl : Nat → Nat} {N : Nat} {th sz ea tk dp lr dy ca ls mn : Int32} {hn va : Nat → Int64} {ha hh dz wh bg en od wi al tp kd fr me wo pc ht fs la kh kf kl : Nat → Int32} {y x s0 s1 k : Nat} {o g j : Nat → Int32} {b : Bool} {kn5 : Bool} {sh5 dk5 sk5 : Nat → Int32} {xs5 : List Int32} {ts5 t2 : List Bool} (C : Cx Z X cX10_sum 6 RX10) (hN : N ≤ 12) (hy : y < 16) (hx : x < 3) (hk0 : s0 ≤ k) (hk : k < s1) (h400 : s1 ≤ 400) (hI : (kn5 = true → LkOk N pc ht fs la sh5 dk5) ∧ SkL sk5 xs5 ∧ TyL ts5 xs5 ∧ xs5.length + s0 ≤ k ∧ (s0 < s1 → tyR o k (s1 - k) ts5 = some [b]) ∧ evL (lfI N dy pc ht fs la) o g j k (s1 - k) xs5 = evL (lfI N dy pc ht fs la) o g j s0 (s1 - s0) []) (ho : o k = nI 14) (hod : od k = omN 14) (r0 : 14 = 0 → wi k = g k) (rn : (14 = 3 ∨ 14 = 4 ∨ 14 = 5 ∨ 14 = 6 ∨ 14 = 7) → wi k = g k ∧ ∃ h, h < N ∧ g k = nI h) (r6 : 14 = 6 → al k = j k ∧ ∃ h, h < N ∧ j k = nI h) (hty1 : tyC 14 ts5 = some t2) (hty2 : tyR o (k + 1) (s1 - (k + 1)) t2 = some [b]) (ih : ∀ q : Bool × (Nat → Int32) × (Nat → Int32) × (Nat → Int32) × (List Int32) × (List Bool), ((q.1 = true → LkOk N pc ht fs la q.2.1 q.2.2.1) ∧ SkL q.2.2.2.1 q.2.2.2.2.1 ∧ TyL q.2.2.2.2.2 q.2.2.2.2.1 ∧ q.2.2.2.2.1.length + s0 ≤ (k + 1) ∧ (s0 < s1 → tyR o (k + 1) (s1 - (k + 1)) q.2.2.2.2.2 = some [b]) ∧ evL (lfI N dy pc ht fs la) o g j (k + 1) (s1 - (k + 1)) q.2.2.2.2.1 = evL (lfI N dy pc ht fs la) o g j s0 (s1 - s0) []) → Jd Z X (rmK 8) 6 Q (rmK 8).cells (rmK 8).slots 17 [(3, .int (nI q.2.2.2.2.1.length)), (4, .int (nI (k + 1))), (0, .ref (mo 0)), (1, .int (nI y)), (2, .int (nI x))] [] (wMd Z mo pl th sz ea tk dp lr dy ca q.1 tp kd fr me va wo pc ht fs la kh kf kl q.2.1 q.2.2.1 q.2.2.2.1 ++ wPl Z pl (nI N) ls mn hn ha hh dz wh bg en od wi al)) : Jd Z X (rmK 8) 6 Q (rmK 8).cells (rmK 8).slots 35 [(3, .int (nI xs5.length)), (4, .int (nI k)), (0, .ref (mo 0)), (1, .int (nI y)), (2, .int (nI x))] [] (wMd Z mo pl th sz ea tk dp lr dy ca kn5 tp kd fr me va wo pc ht fs la kh kf kl sh5 dk5 sk5 ++ wPl Z pl (nI N) ls mn hn ha hh dz wh bg en od wi al) := by
  obtain ⟨y9, x9, r9, tr9, rfl, rfl, hT9, h01⟩ := ty_two (by decide) (by decide) hty1 hI.2.2.1
  have hl9 := hI.2.2.2.1
  simp only [List.length_cons] at hl9
  refine J_lvm [(3, .int (nI (r9.length + 2))), (4, .int (nI k)), (0, .ref (mo 0)), (1, .int (nI y)), (2, .int (nI x))] (by rfl) ?_
  refine J_aload_n C iX10_sum_35 rfl rfl ?_
  refine J_get (.ref (pl 0)) 0 C iX10_sum_36 gf_X10_20 rfl rfl ?_
  refine J_get (.ref (pl 8)) 17 C iX10_sum_39 gf_X10_198 rfl rfl ?_
  refine J_iload C iX10_sum_42 rfl ?_
  refine J_iald 25 C iX10_sum_44 rfl (vp_in_nI (n := k) (by omega) (by decide)) ?_
  rw [nI_clamp (n := k) (by omega)]
  refine J_istore [(5, .int (od k)), (3, .int (nI (r9.length + 2))), (4, .int (nI k)), (0, .ref (mo 0)), (1, .int (nI y)), (2, .int (nI x))] C iX10_sum_45 (by decide) rfl ?_
  refine J_lvm [(5, .int 22), (3, .int (nI (r9.length + 2))), (4, .int (nI k)), (0, .ref (mo 0)), (1, .int (nI y)), (2, .int (nI x))] (by rw [hod]; rfl) ?_
  refine J_iload C iX10_sum_47 rfl ?_
  refine J_cSp (As := [.int 22]) (st := []) C iX10_sum_49 lm_X10_201 yc_X10_isAsked ys_X10_isAsked (c_X10_isAsked (x := 22)) rfl (rmK_le (by omega) (by decide)) (Nat.le_of_ble_eq_true rfl) ⟨rfl, rfl⟩ ?_
  rintro _ rfl
  refine J_st (.int (b2i (askB 22)) :: []) rfl ?_
  refine J_ifeqb 93 C iX10_sum_52 rfl (fun h52 => ?_) (fun h52 => absurd (h52.symm.trans (by decide : askB 22 = false)) (by decide))
  refine J_iload C iX10_sum_93 rfl ?_
  refine J_bipush 105 C iX10_sum_95 rfl ?_
  refine J_icmpne 120 C iX10_sum_97 rfl (fun h97 => ?_) (fun h97 => absurd h97 (by decide))
  refine J_iload C iX10_sum_120 rfl ?_
  refine J_bipush 19 C iX10_sum_122 rfl ?_
  refine J_icmpne 148 C iX10_sum_124 rfl (fun h124 => ?_) (fun h124 => absurd h124 (by decide))
  refine J_iinc (nI (r9.length + 2) + (-1)) [(3, .int (nI (r9.length + 2) + (-1))), (5, .int 22), (4, .int (nI k)), (0, .ref (mo 0)), (1, .int (nI y)), (2, .int (nI x))] C iX10_sum_148 rfl rfl (by decide) rfl ?_
  rw [show nI (r9.length + 2) + (-1) = nI (r9.length + 1) from nI_dec2]
  refine J_aload_n C iX10_sum_151 rfl rfl ?_
  refine J_get (.ref (mo 16)) 0 C iX10_sum_152 gf_X10_67 rfl rfl ?_
  refine J_iload_n C iX10_sum_155 rfl rfl ?_
  refine J_iconst 1 C iX10_sum_156 rfl ?_
  refine J_isub C iX10_sum_157 ?_
  rw [show (nI (r9.length + 1)) - 1 = nI r9.length from nI_dec]
  refine J_iload C iX10_sum_158 rfl ?_
  refine J_aload_n C iX10_sum_160 rfl rfl ?_
  refine J_get (.ref (mo 16)) 0 C iX10_sum_161 gf_X10_67 rfl rfl ?_
  refine J_iload_n C iX10_sum_164 rfl rfl ?_
  refine J_iconst 1 C iX10_sum_165 rfl ?_
  refine J_isub C iX10_sum_166 ?_
  rw [show (nI (r9.length + 1)) - 1 = nI r9.length from nI_dec]
  refine J_iald 16 C iX10_sum_167 rfl (vp_in_nI (n := r9.length) (by omega) (by decide)) ?_
  rw [nI_clamp (n := r9.length) (by omega)]
  refine J_aload_n C iX10_sum_168 rfl rfl ?_
  refine J_get (.ref (mo 16)) 0 C iX10_sum_169 gf_X10_67 rfl rfl ?_
  refine J_iload_n C iX10_sum_172 rfl rfl ?_
  refine J_iald 16 C iX10_sum_173 rfl (vp_in_nI (n := (r9.length + 1)) (by omega) (by decide)) ?_
  rw [nI_clamp (n := (r9.length + 1)) (by omega)]
  refine J_st (.int y9 :: .int x9 :: .int 22 :: .int (nI r9.length) :: .ref (mo 16) :: []) (by rw [show sk5 (r9.length + 1) = y9 from hI.2.1.1, show sk5 r9.length = x9 from hI.2.1.2.1]) ?_
  refine J_cSp (As := [.int 22, .int x9, .int y9]) (st := .int (nI r9.length) :: .ref (mo 16) :: []) C iX10_sum_174 lm_X10_214 yc_X10_reckon ys_X10_reckon (c_X10_reckon_14 (a := x9) (b := y9)) rfl (rmK_le (by omega) (by decide)) (Nat.le_of_ble_eq_true rfl) ⟨rfl, rfl⟩ ?_
  rintro _ rfl
  refine J_st (.int (rcM 14 x9 y9) :: .int (nI r9.length) :: .ref (mo 16) :: []) rfl ?_
  refine J_iast (wMd Z mo pl th sz ea tk dp lr dy ca kn5 tp kd fr me va wo pc ht fs la kh kf kl sh5 dk5 (upd sk5 (nI r9.length).toNatClampNeg (rcM 14 x9 y9)) ++ wPl Z pl (nI N) ls mn hn ha hh dz wh bg en od wi al) 16 C iX10_sum_177 rfl (vp_in_nI (n := r9.length) (by omega) (by decide)) rfl ?_
  rw [nI_clamp (n := r9.length) (by omega)]
  refine J_iinc ((nI k) + 1) [(4, .int ((nI k) + 1)), (3, .int (nI (r9.length + 1))), (5, .int 22), (0, .ref (mo 0)), (1, .int (nI y)), (2, .int (nI x))] C iX10_sum_178 rfl rfl (by decide) rfl ?_
  rw [show (nI k) + 1 = nI (k + 1) from nI_add _ _]
  refine J_goto 17 C iX10_sum_181 rfl ?_
  refine J_lvm [(3, .int (nI (r9.length + 1))), (4, .int (nI (k + 1))), (0, .ref (mo 0)), (1, .int (nI y)), (2, .int (nI x))] rfl ?_
  exact ih (kn5, sh5, dk5, upd sk5 r9.length (rcM 14 x9 y9), (rcM 14 x9 y9) :: r9, false :: tr9) (by dsimp only; exact ⟨hI.1, ⟨upd_s, skl_upd (Nat.le_refl _) hI.2.1.2.2⟩, ⟨(fun q => absurd q (by decide)), hT9⟩, by simp only [List.length_cons]; omega, fun _ => hty2, by rw [← hI.2.2.2.2.2, evL_s hk, ho, evS_two (by decide) (by decide) (by omega) h01]⟩)

set_option maxRecDepth 100000 in
set_option maxHeartbeats 4000000 in
theorem sum_b15 {Z : GZ} {X : CX} {Q : State → Prop} {mo pl : Nat → Nat} {N : Nat} {th sz ea tk dp lr dy ca ls mn : Int32} {hn va : Nat → Int64} {ha hh dz wh bg en od wi al tp kd fr me wo pc ht fs la kh kf kl : Nat → Int32} {y x s0 s1 k : Nat} {o g j : Nat → Int32} {b : Bool} {kn5 : Bool} {sh5 dk5 sk5 : Nat → Int32} {xs5 : List Int32} {ts5 t2 : List Bool} (C : Cx Z X cX10_sum 6 RX10) (hN : N ≤ 12) (hy : y < 16) (hx : x < 3) (hk0 : s0 ≤ k) (hk : k < s1) (h400 : s1 ≤ 400) (hI : (kn5 = true → LkOk N pc ht fs la sh5 dk5) ∧ SkL sk5 xs5 ∧ TyL ts5 xs5 ∧ xs5.length + s0 ≤ k ∧ (s0 < s1 → tyR o k (s1 - k) ts5 = some [b]) ∧ evL (lfI N dy pc ht fs la) o g j k (s1 - k) xs5 = evL (lfI N dy pc ht fs la) o g j s0 (s1 - s0) []) (ho : o k = nI 15) (hod : od k = omN 15) (r0 : 15 = 0 → wi k = g k) (rn : (15 = 3 ∨ 15 = 4 ∨ 15 = 5 ∨ 15 = 6 ∨ 15 = 7) → wi k = g k ∧ ∃ h, h < N ∧ g k = nI h) (r6 : 15 = 6 → al k = j k ∧ ∃ h, h < N ∧ j k = nI h) (hty1 : tyC 15 ts5 = some t2) (hty2 : tyR o (k + 1) (s1 - (k + 1)) t2 = some [b]) (ih : ∀ q : Bool × (Nat → Int32) × (Nat → Int32) × (Nat → Int32) × (List Int32) × (List Bool), ((q.1 = true → LkOk N pc ht fs la q.2.1 q.2.2.1) ∧ SkL q.2.2.2.1 q.2.2.2.2.1 ∧ TyL q.2.2.2.2.2 q.2.2.2.2.1 ∧ q.2.2.2.2.1.length + s0 ≤ (k + 1) ∧ (s0 < s1 → tyR o (k + 1) (s1 - (k + 1)) q.2.2.2.2.2 = some [b]) ∧ evL (lfI N dy pc ht fs la) o g j (k + 1) (s1 - (k + 1)) q.2.2.2.2.1 = evL (lfI N dy pc ht fs la) o g j s0 (s1 - s0) []) → Jd Z X (rmK 8) 6 Q (rmK 8).cells (rmK 8).slots 17 [(3, .int (nI q.2.2.2.2.1.length)), (4, .int (nI (k + 1))), (0, .ref (mo 0)), (1, .int (nI y)), (2, .int (nI x))] [] (wMd Z mo pl th sz ea tk dp lr dy ca q.1 tp kd fr me va wo pc ht fs la kh kf kl q.2.1 q.2.2.1 q.2.2.2.1 ++ wPl Z pl (nI N) ls mn hn ha hh dz wh bg en od wi al)) : Jd Z X (rmK 8) 6 Q (rmK 8).cells (rmK 8).slots 35 [(3, .int (nI xs5.length)), (4, .int (nI k)), (0, .ref (mo 0)), (1, .int (nI y)), (2, .int (nI x))] [] (wMd Z mo pl th sz ea tk dp lr dy ca kn5 tp kd fr me va wo pc ht fs la kh kf kl sh5 dk5 sk5 ++ wPl Z pl (nI N) ls mn hn ha hh dz wh bg en od wi al) := by
  obtain ⟨y9, x9, r9, tr9, rfl, rfl, hT9, h01⟩ := ty_two (by decide) (by decide) hty1 hI.2.2.1
  have hl9 := hI.2.2.2.1
  simp only [List.length_cons] at hl9
  refine J_lvm [(3, .int (nI (r9.length + 2))), (4, .int (nI k)), (0, .ref (mo 0)), (1, .int (nI y)), (2, .int (nI x))] (by rfl) ?_
  refine J_aload_n C iX10_sum_35 rfl rfl ?_
  refine J_get (.ref (pl 0)) 0 C iX10_sum_36 gf_X10_20 rfl rfl ?_
  refine J_get (.ref (pl 8)) 17 C iX10_sum_39 gf_X10_198 rfl rfl ?_
  refine J_iload C iX10_sum_42 rfl ?_
  refine J_iald 25 C iX10_sum_44 rfl (vp_in_nI (n := k) (by omega) (by decide)) ?_
  rw [nI_clamp (n := k) (by omega)]
  refine J_istore [(5, .int (od k)), (3, .int (nI (r9.length + 2))), (4, .int (nI k)), (0, .ref (mo 0)), (1, .int (nI y)), (2, .int (nI x))] C iX10_sum_45 (by decide) rfl ?_
  refine J_lvm [(5, .int 23), (3, .int (nI (r9.length + 2))), (4, .int (nI k)), (0, .ref (mo 0)), (1, .int (nI y)), (2, .int (nI x))] (by rw [hod]; rfl) ?_
  refine J_iload C iX10_sum_47 rfl ?_
  refine J_cSp (As := [.int 23]) (st := []) C iX10_sum_49 lm_X10_201 yc_X10_isAsked ys_X10_isAsked (c_X10_isAsked (x := 23)) rfl (rmK_le (by omega) (by decide)) (Nat.le_of_ble_eq_true rfl) ⟨rfl, rfl⟩ ?_
  rintro _ rfl
  refine J_st (.int (b2i (askB 23)) :: []) rfl ?_
  refine J_ifeqb 93 C iX10_sum_52 rfl (fun h52 => ?_) (fun h52 => absurd (h52.symm.trans (by decide : askB 23 = false)) (by decide))
  refine J_iload C iX10_sum_93 rfl ?_
  refine J_bipush 105 C iX10_sum_95 rfl ?_
  refine J_icmpne 120 C iX10_sum_97 rfl (fun h97 => ?_) (fun h97 => absurd h97 (by decide))
  refine J_iload C iX10_sum_120 rfl ?_
  refine J_bipush 19 C iX10_sum_122 rfl ?_
  refine J_icmpne 148 C iX10_sum_124 rfl (fun h124 => ?_) (fun h124 => absurd h124 (by decide))
  refine J_iinc (nI (r9.length + 2) + (-1)) [(3, .int (nI (r9.length + 2) + (-1))), (5, .int 23), (4, .int (nI k)), (0, .ref (mo 0)), (1, .int (nI y)), (2, .int (nI x))] C iX10_sum_148 rfl rfl (by decide) rfl ?_
  rw [show nI (r9.length + 2) + (-1) = nI (r9.length + 1) from nI_dec2]
  refine J_aload_n C iX10_sum_151 rfl rfl ?_
  refine J_get (.ref (mo 16)) 0 C iX10_sum_152 gf_X10_67 rfl rfl ?_
  refine J_iload_n C iX10_sum_155 rfl rfl ?_
  refine J_iconst 1 C iX10_sum_156 rfl ?_
  refine J_isub C iX10_sum_157 ?_
  rw [show (nI (r9.length + 1)) - 1 = nI r9.length from nI_dec]
  refine J_iload C iX10_sum_158 rfl ?_
  refine J_aload_n C iX10_sum_160 rfl rfl ?_
  refine J_get (.ref (mo 16)) 0 C iX10_sum_161 gf_X10_67 rfl rfl ?_
  refine J_iload_n C iX10_sum_164 rfl rfl ?_
  refine J_iconst 1 C iX10_sum_165 rfl ?_
  refine J_isub C iX10_sum_166 ?_
  rw [show (nI (r9.length + 1)) - 1 = nI r9.length from nI_dec]
  refine J_iald 16 C iX10_sum_167 rfl (vp_in_nI (n := r9.length) (by omega) (by decide)) ?_
  rw [nI_clamp (n := r9.length) (by omega)]
  refine J_aload_n C iX10_sum_168 rfl rfl ?_
  refine J_get (.ref (mo 16)) 0 C iX10_sum_169 gf_X10_67 rfl rfl ?_
  refine J_iload_n C iX10_sum_172 rfl rfl ?_
  refine J_iald 16 C iX10_sum_173 rfl (vp_in_nI (n := (r9.length + 1)) (by omega) (by decide)) ?_
  rw [nI_clamp (n := (r9.length + 1)) (by omega)]
  refine J_st (.int y9 :: .int x9 :: .int 23 :: .int (nI r9.length) :: .ref (mo 16) :: []) (by rw [show sk5 (r9.length + 1) = y9 from hI.2.1.1, show sk5 r9.length = x9 from hI.2.1.2.1]) ?_
  refine J_cSp (As := [.int 23, .int x9, .int y9]) (st := .int (nI r9.length) :: .ref (mo 16) :: []) C iX10_sum_174 lm_X10_214 yc_X10_reckon ys_X10_reckon (c_X10_reckon_15 (a := x9) (b := y9)) rfl (rmK_le (by omega) (by decide)) (Nat.le_of_ble_eq_true rfl) ⟨rfl, rfl⟩ ?_
  rintro _ rfl
  refine J_st (.int (rcM 15 x9 y9) :: .int (nI r9.length) :: .ref (mo 16) :: []) rfl ?_
  refine J_iast (wMd Z mo pl th sz ea tk dp lr dy ca kn5 tp kd fr me va wo pc ht fs la kh kf kl sh5 dk5 (upd sk5 (nI r9.length).toNatClampNeg (rcM 15 x9 y9)) ++ wPl Z pl (nI N) ls mn hn ha hh dz wh bg en od wi al) 16 C iX10_sum_177 rfl (vp_in_nI (n := r9.length) (by omega) (by decide)) rfl ?_
  rw [nI_clamp (n := r9.length) (by omega)]
  refine J_iinc ((nI k) + 1) [(4, .int ((nI k) + 1)), (3, .int (nI (r9.length + 1))), (5, .int 23), (0, .ref (mo 0)), (1, .int (nI y)), (2, .int (nI x))] C iX10_sum_178 rfl rfl (by decide) rfl ?_
  rw [show (nI k) + 1 = nI (k + 1) from nI_add _ _]
  refine J_goto 17 C iX10_sum_181 rfl ?_
  refine J_lvm [(3, .int (nI (r9.length + 1))), (4, .int (nI (k + 1))), (0, .ref (mo 0)), (1, .int (nI y)), (2, .int (nI x))] rfl ?_
  exact ih (kn5, sh5, dk5, upd sk5 r9.length (rcM 15 x9 y9), (rcM 15 x9 y9) :: r9, false :: tr9) (by dsimp only; exact ⟨hI.1, ⟨upd_s, skl_upd (Nat.le_refl _) hI.2.1.2.2⟩, ⟨(fun q => absurd q (by decide)), hT9⟩, by simp only [List.length_cons]; omega, fun _ => hty2, by rw [← hI.2.2.2.2.2, evL_s hk, ho, evS_two (by decide) (by decide) (by omega) h01]⟩)

set_option maxRecDepth 100000 in
set_option maxHeartbeats 4000000 in
theorem sum_b16 {Z : GZ} {X : CX} {Q : State → Prop} {mo pl : Nat → Nat} {N : Nat} {th sz ea tk dp lr dy ca ls mn : Int32} {hn va : Nat → Int64} {ha hh dz wh bg en od wi al tp kd fr me wo pc ht fs la kh kf kl : Nat → Int32} {y x s0 s1 k : Nat} {o g j : Nat → Int32} {b : Bool} {kn5 : Bool} {sh5 dk5 sk5 : Nat → Int32} {xs5 : List Int32} {ts5 t2 : List Bool} (C : Cx Z X cX10_sum 6 RX10) (hN : N ≤ 12) (hy : y < 16) (hx : x < 3) (hk0 : s0 ≤ k) (hk : k < s1) (h400 : s1 ≤ 400) (hI : (kn5 = true → LkOk N pc ht fs la sh5 dk5) ∧ SkL sk5 xs5 ∧ TyL ts5 xs5 ∧ xs5.length + s0 ≤ k ∧ (s0 < s1 → tyR o k (s1 - k) ts5 = some [b]) ∧ evL (lfI N dy pc ht fs la) o g j k (s1 - k) xs5 = evL (lfI N dy pc ht fs la) o g j s0 (s1 - s0) []) (ho : o k = nI 16) (hod : od k = omN 16) (r0 : 16 = 0 → wi k = g k) (rn : (16 = 3 ∨ 16 = 4 ∨ 16 = 5 ∨ 16 = 6 ∨ 16 = 7) → wi k = g k ∧ ∃ h, h < N ∧ g k = nI h) (r6 : 16 = 6 → al k = j k ∧ ∃ h, h < N ∧ j k = nI h) (hty1 : tyC 16 ts5 = some t2) (hty2 : tyR o (k + 1) (s1 - (k + 1)) t2 = some [b]) (ih : ∀ q : Bool × (Nat → Int32) × (Nat → Int32) × (Nat → Int32) × (List Int32) × (List Bool), ((q.1 = true → LkOk N pc ht fs la q.2.1 q.2.2.1) ∧ SkL q.2.2.2.1 q.2.2.2.2.1 ∧ TyL q.2.2.2.2.2 q.2.2.2.2.1 ∧ q.2.2.2.2.1.length + s0 ≤ (k + 1) ∧ (s0 < s1 → tyR o (k + 1) (s1 - (k + 1)) q.2.2.2.2.2 = some [b]) ∧ evL (lfI N dy pc ht fs la) o g j (k + 1) (s1 - (k + 1)) q.2.2.2.2.1 = evL (lfI N dy pc ht fs la) o g j s0 (s1 - s0) []) → Jd Z X (rmK 8) 6 Q (rmK 8).cells (rmK 8).slots 17 [(3, .int (nI q.2.2.2.2.1.length)), (4, .int (nI (k + 1))), (0, .ref (mo 0)), (1, .int (nI y)), (2, .int (nI x))] [] (wMd Z mo pl th sz ea tk dp lr dy ca q.1 tp kd fr me va wo pc ht fs la kh kf kl q.2.1 q.2.2.1 q.2.2.2.1 ++ wPl Z pl (nI N) ls mn hn ha hh dz wh bg en od wi al)) : Jd Z X (rmK 8) 6 Q (rmK 8).cells (rmK 8).slots 35 [(3, .int (nI xs5.length)), (4, .int (nI k)), (0, .ref (mo 0)), (1, .int (nI y)), (2, .int (nI x))] [] (wMd Z mo pl th sz ea tk dp lr dy ca kn5 tp kd fr me va wo pc ht fs la kh kf kl sh5 dk5 sk5 ++ wPl Z pl (nI N) ls mn hn ha hh dz wh bg en od wi al) := by
  obtain ⟨y9, x9, r9, tr9, rfl, rfl, hT9, h01⟩ := ty_two (by decide) (by decide) hty1 hI.2.2.1
  have hl9 := hI.2.2.2.1
  simp only [List.length_cons] at hl9
  refine J_lvm [(3, .int (nI (r9.length + 2))), (4, .int (nI k)), (0, .ref (mo 0)), (1, .int (nI y)), (2, .int (nI x))] (by rfl) ?_
  refine J_aload_n C iX10_sum_35 rfl rfl ?_
  refine J_get (.ref (pl 0)) 0 C iX10_sum_36 gf_X10_20 rfl rfl ?_
  refine J_get (.ref (pl 8)) 17 C iX10_sum_39 gf_X10_198 rfl rfl ?_
  refine J_iload C iX10_sum_42 rfl ?_
  refine J_iald 25 C iX10_sum_44 rfl (vp_in_nI (n := k) (by omega) (by decide)) ?_
  rw [nI_clamp (n := k) (by omega)]
  refine J_istore [(5, .int (od k)), (3, .int (nI (r9.length + 2))), (4, .int (nI k)), (0, .ref (mo 0)), (1, .int (nI y)), (2, .int (nI x))] C iX10_sum_45 (by decide) rfl ?_
  refine J_lvm [(5, .int 106), (3, .int (nI (r9.length + 2))), (4, .int (nI k)), (0, .ref (mo 0)), (1, .int (nI y)), (2, .int (nI x))] (by rw [hod]; rfl) ?_
  refine J_iload C iX10_sum_47 rfl ?_
  refine J_cSp (As := [.int 106]) (st := []) C iX10_sum_49 lm_X10_201 yc_X10_isAsked ys_X10_isAsked (c_X10_isAsked (x := 106)) rfl (rmK_le (by omega) (by decide)) (Nat.le_of_ble_eq_true rfl) ⟨rfl, rfl⟩ ?_
  rintro _ rfl
  refine J_st (.int (b2i (askB 106)) :: []) rfl ?_
  refine J_ifeqb 93 C iX10_sum_52 rfl (fun h52 => ?_) (fun h52 => absurd (h52.symm.trans (by decide : askB 106 = false)) (by decide))
  refine J_iload C iX10_sum_93 rfl ?_
  refine J_bipush 105 C iX10_sum_95 rfl ?_
  refine J_icmpne 120 C iX10_sum_97 rfl (fun h97 => ?_) (fun h97 => absurd h97 (by decide))
  refine J_iload C iX10_sum_120 rfl ?_
  refine J_bipush 19 C iX10_sum_122 rfl ?_
  refine J_icmpne 148 C iX10_sum_124 rfl (fun h124 => ?_) (fun h124 => absurd h124 (by decide))
  refine J_iinc (nI (r9.length + 2) + (-1)) [(3, .int (nI (r9.length + 2) + (-1))), (5, .int 106), (4, .int (nI k)), (0, .ref (mo 0)), (1, .int (nI y)), (2, .int (nI x))] C iX10_sum_148 rfl rfl (by decide) rfl ?_
  rw [show nI (r9.length + 2) + (-1) = nI (r9.length + 1) from nI_dec2]
  refine J_aload_n C iX10_sum_151 rfl rfl ?_
  refine J_get (.ref (mo 16)) 0 C iX10_sum_152 gf_X10_67 rfl rfl ?_
  refine J_iload_n C iX10_sum_155 rfl rfl ?_
  refine J_iconst 1 C iX10_sum_156 rfl ?_
  refine J_isub C iX10_sum_157 ?_
  rw [show (nI (r9.length + 1)) - 1 = nI r9.length from nI_dec]
  refine J_iload C iX10_sum_158 rfl ?_
  refine J_aload_n C iX10_sum_160 rfl rfl ?_
  refine J_get (.ref (mo 16)) 0 C iX10_sum_161 gf_X10_67 rfl rfl ?_
  refine J_iload_n C iX10_sum_164 rfl rfl ?_
  refine J_iconst 1 C iX10_sum_165 rfl ?_
  refine J_isub C iX10_sum_166 ?_
  rw [show (nI (r9.length + 1)) - 1 = nI r9.length from nI_dec]
  refine J_iald 16 C iX10_sum_167 rfl (vp_in_nI (n := r9.length) (by omega) (by decide)) ?_
  rw [nI_clamp (n := r9.length) (by omega)]
  refine J_aload_n C iX10_sum_168 rfl rfl ?_
  refine J_get (.ref (mo 16)) 0 C iX10_sum_169 gf_X10_67 rfl rfl ?_
  refine J_iload_n C iX10_sum_172 rfl rfl ?_
  refine J_iald 16 C iX10_sum_173 rfl (vp_in_nI (n := (r9.length + 1)) (by omega) (by decide)) ?_
  rw [nI_clamp (n := (r9.length + 1)) (by omega)]
  refine J_st (.int y9 :: .int x9 :: .int 106 :: .int (nI r9.length) :: .ref (mo 16) :: []) (by rw [show sk5 (r9.length + 1) = y9 from hI.2.1.1, show sk5 r9.length = x9 from hI.2.1.2.1]) ?_
  refine J_cSp (As := [.int 106, .int x9, .int y9]) (st := .int (nI r9.length) :: .ref (mo 16) :: []) C iX10_sum_174 lm_X10_214 yc_X10_reckon ys_X10_reckon (c_X10_reckon_16 (a := x9) (b := y9)) rfl (rmK_le (by omega) (by decide)) (Nat.le_of_ble_eq_true rfl) ⟨rfl, rfl⟩ ?_
  rintro _ rfl
  refine J_st (.int (rcM 16 x9 y9) :: .int (nI r9.length) :: .ref (mo 16) :: []) rfl ?_
  refine J_iast (wMd Z mo pl th sz ea tk dp lr dy ca kn5 tp kd fr me va wo pc ht fs la kh kf kl sh5 dk5 (upd sk5 (nI r9.length).toNatClampNeg (rcM 16 x9 y9)) ++ wPl Z pl (nI N) ls mn hn ha hh dz wh bg en od wi al) 16 C iX10_sum_177 rfl (vp_in_nI (n := r9.length) (by omega) (by decide)) rfl ?_
  rw [nI_clamp (n := r9.length) (by omega)]
  refine J_iinc ((nI k) + 1) [(4, .int ((nI k) + 1)), (3, .int (nI (r9.length + 1))), (5, .int 106), (0, .ref (mo 0)), (1, .int (nI y)), (2, .int (nI x))] C iX10_sum_178 rfl rfl (by decide) rfl ?_
  rw [show (nI k) + 1 = nI (k + 1) from nI_add _ _]
  refine J_goto 17 C iX10_sum_181 rfl ?_
  refine J_lvm [(3, .int (nI (r9.length + 1))), (4, .int (nI (k + 1))), (0, .ref (mo 0)), (1, .int (nI y)), (2, .int (nI x))] rfl ?_
  exact ih (kn5, sh5, dk5, upd sk5 r9.length (rcM 16 x9 y9), (rcM 16 x9 y9) :: r9, true :: tr9) (by dsimp only; exact ⟨hI.1, ⟨upd_s, skl_upd (Nat.le_refl _) hI.2.1.2.2⟩, ⟨(fun _ => rcM_b (by decide) (by decide) h01), hT9⟩, by simp only [List.length_cons]; omega, fun _ => hty2, by rw [← hI.2.2.2.2.2, evL_s hk, ho, evS_two (by decide) (by decide) (by omega) h01]⟩)

set_option maxRecDepth 100000 in
set_option maxHeartbeats 4000000 in
theorem sum_b17 {Z : GZ} {X : CX} {Q : State → Prop} {mo pl : Nat → Nat} {N : Nat} {th sz ea tk dp lr dy ca ls mn : Int32} {hn va : Nat → Int64} {ha hh dz wh bg en od wi al tp kd fr me wo pc ht fs la kh kf kl : Nat → Int32} {y x s0 s1 k : Nat} {o g j : Nat → Int32} {b : Bool} {kn5 : Bool} {sh5 dk5 sk5 : Nat → Int32} {xs5 : List Int32} {ts5 t2 : List Bool} (C : Cx Z X cX10_sum 6 RX10) (hN : N ≤ 12) (hy : y < 16) (hx : x < 3) (hk0 : s0 ≤ k) (hk : k < s1) (h400 : s1 ≤ 400) (hI : (kn5 = true → LkOk N pc ht fs la sh5 dk5) ∧ SkL sk5 xs5 ∧ TyL ts5 xs5 ∧ xs5.length + s0 ≤ k ∧ (s0 < s1 → tyR o k (s1 - k) ts5 = some [b]) ∧ evL (lfI N dy pc ht fs la) o g j k (s1 - k) xs5 = evL (lfI N dy pc ht fs la) o g j s0 (s1 - s0) []) (ho : o k = nI 17) (hod : od k = omN 17) (r0 : 17 = 0 → wi k = g k) (rn : (17 = 3 ∨ 17 = 4 ∨ 17 = 5 ∨ 17 = 6 ∨ 17 = 7) → wi k = g k ∧ ∃ h, h < N ∧ g k = nI h) (r6 : 17 = 6 → al k = j k ∧ ∃ h, h < N ∧ j k = nI h) (hty1 : tyC 17 ts5 = some t2) (hty2 : tyR o (k + 1) (s1 - (k + 1)) t2 = some [b]) (ih : ∀ q : Bool × (Nat → Int32) × (Nat → Int32) × (Nat → Int32) × (List Int32) × (List Bool), ((q.1 = true → LkOk N pc ht fs la q.2.1 q.2.2.1) ∧ SkL q.2.2.2.1 q.2.2.2.2.1 ∧ TyL q.2.2.2.2.2 q.2.2.2.2.1 ∧ q.2.2.2.2.1.length + s0 ≤ (k + 1) ∧ (s0 < s1 → tyR o (k + 1) (s1 - (k + 1)) q.2.2.2.2.2 = some [b]) ∧ evL (lfI N dy pc ht fs la) o g j (k + 1) (s1 - (k + 1)) q.2.2.2.2.1 = evL (lfI N dy pc ht fs la) o g j s0 (s1 - s0) []) → Jd Z X (rmK 8) 6 Q (rmK 8).cells (rmK 8).slots 17 [(3, .int (nI q.2.2.2.2.1.length)), (4, .int (nI (k + 1))), (0, .ref (mo 0)), (1, .int (nI y)), (2, .int (nI x))] [] (wMd Z mo pl th sz ea tk dp lr dy ca q.1 tp kd fr me va wo pc ht fs la kh kf kl q.2.1 q.2.2.1 q.2.2.2.1 ++ wPl Z pl (nI N) ls mn hn ha hh dz wh bg en od wi al)) : Jd Z X (rmK 8) 6 Q (rmK 8).cells (rmK 8).slots 35 [(3, .int (nI xs5.length)), (4, .int (nI k)), (0, .ref (mo 0)), (1, .int (nI y)), (2, .int (nI x))] [] (wMd Z mo pl th sz ea tk dp lr dy ca kn5 tp kd fr me va wo pc ht fs la kh kf kl sh5 dk5 sk5 ++ wPl Z pl (nI N) ls mn hn ha hh dz wh bg en od wi al) := by
  obtain ⟨y9, x9, r9, tr9, rfl, rfl, hT9, h01⟩ := ty_two (by decide) (by decide) hty1 hI.2.2.1
  have hl9 := hI.2.2.2.1
  simp only [List.length_cons] at hl9
  refine J_lvm [(3, .int (nI (r9.length + 2))), (4, .int (nI k)), (0, .ref (mo 0)), (1, .int (nI y)), (2, .int (nI x))] (by rfl) ?_
  refine J_aload_n C iX10_sum_35 rfl rfl ?_
  refine J_get (.ref (pl 0)) 0 C iX10_sum_36 gf_X10_20 rfl rfl ?_
  refine J_get (.ref (pl 8)) 17 C iX10_sum_39 gf_X10_198 rfl rfl ?_
  refine J_iload C iX10_sum_42 rfl ?_
  refine J_iald 25 C iX10_sum_44 rfl (vp_in_nI (n := k) (by omega) (by decide)) ?_
  rw [nI_clamp (n := k) (by omega)]
  refine J_istore [(5, .int (od k)), (3, .int (nI (r9.length + 2))), (4, .int (nI k)), (0, .ref (mo 0)), (1, .int (nI y)), (2, .int (nI x))] C iX10_sum_45 (by decide) rfl ?_
  refine J_lvm [(5, .int 107), (3, .int (nI (r9.length + 2))), (4, .int (nI k)), (0, .ref (mo 0)), (1, .int (nI y)), (2, .int (nI x))] (by rw [hod]; rfl) ?_
  refine J_iload C iX10_sum_47 rfl ?_
  refine J_cSp (As := [.int 107]) (st := []) C iX10_sum_49 lm_X10_201 yc_X10_isAsked ys_X10_isAsked (c_X10_isAsked (x := 107)) rfl (rmK_le (by omega) (by decide)) (Nat.le_of_ble_eq_true rfl) ⟨rfl, rfl⟩ ?_
  rintro _ rfl
  refine J_st (.int (b2i (askB 107)) :: []) rfl ?_
  refine J_ifeqb 93 C iX10_sum_52 rfl (fun h52 => ?_) (fun h52 => absurd (h52.symm.trans (by decide : askB 107 = false)) (by decide))
  refine J_iload C iX10_sum_93 rfl ?_
  refine J_bipush 105 C iX10_sum_95 rfl ?_
  refine J_icmpne 120 C iX10_sum_97 rfl (fun h97 => ?_) (fun h97 => absurd h97 (by decide))
  refine J_iload C iX10_sum_120 rfl ?_
  refine J_bipush 19 C iX10_sum_122 rfl ?_
  refine J_icmpne 148 C iX10_sum_124 rfl (fun h124 => ?_) (fun h124 => absurd h124 (by decide))
  refine J_iinc (nI (r9.length + 2) + (-1)) [(3, .int (nI (r9.length + 2) + (-1))), (5, .int 107), (4, .int (nI k)), (0, .ref (mo 0)), (1, .int (nI y)), (2, .int (nI x))] C iX10_sum_148 rfl rfl (by decide) rfl ?_
  rw [show nI (r9.length + 2) + (-1) = nI (r9.length + 1) from nI_dec2]
  refine J_aload_n C iX10_sum_151 rfl rfl ?_
  refine J_get (.ref (mo 16)) 0 C iX10_sum_152 gf_X10_67 rfl rfl ?_
  refine J_iload_n C iX10_sum_155 rfl rfl ?_
  refine J_iconst 1 C iX10_sum_156 rfl ?_
  refine J_isub C iX10_sum_157 ?_
  rw [show (nI (r9.length + 1)) - 1 = nI r9.length from nI_dec]
  refine J_iload C iX10_sum_158 rfl ?_
  refine J_aload_n C iX10_sum_160 rfl rfl ?_
  refine J_get (.ref (mo 16)) 0 C iX10_sum_161 gf_X10_67 rfl rfl ?_
  refine J_iload_n C iX10_sum_164 rfl rfl ?_
  refine J_iconst 1 C iX10_sum_165 rfl ?_
  refine J_isub C iX10_sum_166 ?_
  rw [show (nI (r9.length + 1)) - 1 = nI r9.length from nI_dec]
  refine J_iald 16 C iX10_sum_167 rfl (vp_in_nI (n := r9.length) (by omega) (by decide)) ?_
  rw [nI_clamp (n := r9.length) (by omega)]
  refine J_aload_n C iX10_sum_168 rfl rfl ?_
  refine J_get (.ref (mo 16)) 0 C iX10_sum_169 gf_X10_67 rfl rfl ?_
  refine J_iload_n C iX10_sum_172 rfl rfl ?_
  refine J_iald 16 C iX10_sum_173 rfl (vp_in_nI (n := (r9.length + 1)) (by omega) (by decide)) ?_
  rw [nI_clamp (n := (r9.length + 1)) (by omega)]
  refine J_st (.int y9 :: .int x9 :: .int 107 :: .int (nI r9.length) :: .ref (mo 16) :: []) (by rw [show sk5 (r9.length + 1) = y9 from hI.2.1.1, show sk5 r9.length = x9 from hI.2.1.2.1]) ?_
  refine J_cSp (As := [.int 107, .int x9, .int y9]) (st := .int (nI r9.length) :: .ref (mo 16) :: []) C iX10_sum_174 lm_X10_214 yc_X10_reckon ys_X10_reckon (c_X10_reckon_17 (a := x9) (b := y9)) rfl (rmK_le (by omega) (by decide)) (Nat.le_of_ble_eq_true rfl) ⟨rfl, rfl⟩ ?_
  rintro _ rfl
  refine J_st (.int (rcM 17 x9 y9) :: .int (nI r9.length) :: .ref (mo 16) :: []) rfl ?_
  refine J_iast (wMd Z mo pl th sz ea tk dp lr dy ca kn5 tp kd fr me va wo pc ht fs la kh kf kl sh5 dk5 (upd sk5 (nI r9.length).toNatClampNeg (rcM 17 x9 y9)) ++ wPl Z pl (nI N) ls mn hn ha hh dz wh bg en od wi al) 16 C iX10_sum_177 rfl (vp_in_nI (n := r9.length) (by omega) (by decide)) rfl ?_
  rw [nI_clamp (n := r9.length) (by omega)]
  refine J_iinc ((nI k) + 1) [(4, .int ((nI k) + 1)), (3, .int (nI (r9.length + 1))), (5, .int 107), (0, .ref (mo 0)), (1, .int (nI y)), (2, .int (nI x))] C iX10_sum_178 rfl rfl (by decide) rfl ?_
  rw [show (nI k) + 1 = nI (k + 1) from nI_add _ _]
  refine J_goto 17 C iX10_sum_181 rfl ?_
  refine J_lvm [(3, .int (nI (r9.length + 1))), (4, .int (nI (k + 1))), (0, .ref (mo 0)), (1, .int (nI y)), (2, .int (nI x))] rfl ?_
  exact ih (kn5, sh5, dk5, upd sk5 r9.length (rcM 17 x9 y9), (rcM 17 x9 y9) :: r9, true :: tr9) (by dsimp only; exact ⟨hI.1, ⟨upd_s, skl_upd (Nat.le_refl _) hI.2.1.2.2⟩, ⟨(fun _ => rcM_b (by decide) (by decide) h01), hT9⟩, by simp only [List.length_cons]; omega, fun _ => hty2, by rw [← hI.2.2.2.2.2, evL_s hk, ho, evS_two (by decide) (by decide) (by omega) h01]⟩)

set_option maxRecDepth 100000 in
set_option maxHeartbeats 4000000 in
theorem sum_b18 {Z : GZ} {X : CX} {Q : State → Prop} {mo pl : Nat → Nat} {N : Nat} {th sz ea tk dp lr dy ca ls mn : Int32} {hn va : Nat → Int64} {ha hh dz wh bg en od wi al tp kd fr me wo pc ht fs la kh kf kl : Nat → Int32} {y x s0 s1 k : Nat} {o g j : Nat → Int32} {b : Bool} {kn5 : Bool} {sh5 dk5 sk5 : Nat → Int32} {xs5 : List Int32} {ts5 t2 : List Bool} (C : Cx Z X cX10_sum 6 RX10) (hN : N ≤ 12) (hy : y < 16) (hx : x < 3) (hk0 : s0 ≤ k) (hk : k < s1) (h400 : s1 ≤ 400) (hI : (kn5 = true → LkOk N pc ht fs la sh5 dk5) ∧ SkL sk5 xs5 ∧ TyL ts5 xs5 ∧ xs5.length + s0 ≤ k ∧ (s0 < s1 → tyR o k (s1 - k) ts5 = some [b]) ∧ evL (lfI N dy pc ht fs la) o g j k (s1 - k) xs5 = evL (lfI N dy pc ht fs la) o g j s0 (s1 - s0) []) (ho : o k = nI 18) (hod : od k = omN 18) (r0 : 18 = 0 → wi k = g k) (rn : (18 = 3 ∨ 18 = 4 ∨ 18 = 5 ∨ 18 = 6 ∨ 18 = 7) → wi k = g k ∧ ∃ h, h < N ∧ g k = nI h) (r6 : 18 = 6 → al k = j k ∧ ∃ h, h < N ∧ j k = nI h) (hty1 : tyC 18 ts5 = some t2) (hty2 : tyR o (k + 1) (s1 - (k + 1)) t2 = some [b]) (ih : ∀ q : Bool × (Nat → Int32) × (Nat → Int32) × (Nat → Int32) × (List Int32) × (List Bool), ((q.1 = true → LkOk N pc ht fs la q.2.1 q.2.2.1) ∧ SkL q.2.2.2.1 q.2.2.2.2.1 ∧ TyL q.2.2.2.2.2 q.2.2.2.2.1 ∧ q.2.2.2.2.1.length + s0 ≤ (k + 1) ∧ (s0 < s1 → tyR o (k + 1) (s1 - (k + 1)) q.2.2.2.2.2 = some [b]) ∧ evL (lfI N dy pc ht fs la) o g j (k + 1) (s1 - (k + 1)) q.2.2.2.2.1 = evL (lfI N dy pc ht fs la) o g j s0 (s1 - s0) []) → Jd Z X (rmK 8) 6 Q (rmK 8).cells (rmK 8).slots 17 [(3, .int (nI q.2.2.2.2.1.length)), (4, .int (nI (k + 1))), (0, .ref (mo 0)), (1, .int (nI y)), (2, .int (nI x))] [] (wMd Z mo pl th sz ea tk dp lr dy ca q.1 tp kd fr me va wo pc ht fs la kh kf kl q.2.1 q.2.2.1 q.2.2.2.1 ++ wPl Z pl (nI N) ls mn hn ha hh dz wh bg en od wi al)) : Jd Z X (rmK 8) 6 Q (rmK 8).cells (rmK 8).slots 35 [(3, .int (nI xs5.length)), (4, .int (nI k)), (0, .ref (mo 0)), (1, .int (nI y)), (2, .int (nI x))] [] (wMd Z mo pl th sz ea tk dp lr dy ca kn5 tp kd fr me va wo pc ht fs la kh kf kl sh5 dk5 sk5 ++ wPl Z pl (nI N) ls mn hn ha hh dz wh bg en od wi al) := by
  obtain ⟨y9, x9, r9, tr9, rfl, rfl, hT9, h01⟩ := ty_two (by decide) (by decide) hty1 hI.2.2.1
  have hl9 := hI.2.2.2.1
  simp only [List.length_cons] at hl9
  refine J_lvm [(3, .int (nI (r9.length + 2))), (4, .int (nI k)), (0, .ref (mo 0)), (1, .int (nI y)), (2, .int (nI x))] (by rfl) ?_
  refine J_aload_n C iX10_sum_35 rfl rfl ?_
  refine J_get (.ref (pl 0)) 0 C iX10_sum_36 gf_X10_20 rfl rfl ?_
  refine J_get (.ref (pl 8)) 17 C iX10_sum_39 gf_X10_198 rfl rfl ?_
  refine J_iload C iX10_sum_42 rfl ?_
  refine J_iald 25 C iX10_sum_44 rfl (vp_in_nI (n := k) (by omega) (by decide)) ?_
  rw [nI_clamp (n := k) (by omega)]
  refine J_istore [(5, .int (od k)), (3, .int (nI (r9.length + 2))), (4, .int (nI k)), (0, .ref (mo 0)), (1, .int (nI y)), (2, .int (nI x))] C iX10_sum_45 (by decide) rfl ?_
  refine J_lvm [(5, .int 108), (3, .int (nI (r9.length + 2))), (4, .int (nI k)), (0, .ref (mo 0)), (1, .int (nI y)), (2, .int (nI x))] (by rw [hod]; rfl) ?_
  refine J_iload C iX10_sum_47 rfl ?_
  refine J_cSp (As := [.int 108]) (st := []) C iX10_sum_49 lm_X10_201 yc_X10_isAsked ys_X10_isAsked (c_X10_isAsked (x := 108)) rfl (rmK_le (by omega) (by decide)) (Nat.le_of_ble_eq_true rfl) ⟨rfl, rfl⟩ ?_
  rintro _ rfl
  refine J_st (.int (b2i (askB 108)) :: []) rfl ?_
  refine J_ifeqb 93 C iX10_sum_52 rfl (fun h52 => ?_) (fun h52 => absurd (h52.symm.trans (by decide : askB 108 = false)) (by decide))
  refine J_iload C iX10_sum_93 rfl ?_
  refine J_bipush 105 C iX10_sum_95 rfl ?_
  refine J_icmpne 120 C iX10_sum_97 rfl (fun h97 => ?_) (fun h97 => absurd h97 (by decide))
  refine J_iload C iX10_sum_120 rfl ?_
  refine J_bipush 19 C iX10_sum_122 rfl ?_
  refine J_icmpne 148 C iX10_sum_124 rfl (fun h124 => ?_) (fun h124 => absurd h124 (by decide))
  refine J_iinc (nI (r9.length + 2) + (-1)) [(3, .int (nI (r9.length + 2) + (-1))), (5, .int 108), (4, .int (nI k)), (0, .ref (mo 0)), (1, .int (nI y)), (2, .int (nI x))] C iX10_sum_148 rfl rfl (by decide) rfl ?_
  rw [show nI (r9.length + 2) + (-1) = nI (r9.length + 1) from nI_dec2]
  refine J_aload_n C iX10_sum_151 rfl rfl ?_
  refine J_get (.ref (mo 16)) 0 C iX10_sum_152 gf_X10_67 rfl rfl ?_
  refine J_iload_n C iX10_sum_155 rfl rfl ?_
  refine J_iconst 1 C iX10_sum_156 rfl ?_
  refine J_isub C iX10_sum_157 ?_
  rw [show (nI (r9.length + 1)) - 1 = nI r9.length from nI_dec]
  refine J_iload C iX10_sum_158 rfl ?_
  refine J_aload_n C iX10_sum_160 rfl rfl ?_
  refine J_get (.ref (mo 16)) 0 C iX10_sum_161 gf_X10_67 rfl rfl ?_
  refine J_iload_n C iX10_sum_164 rfl rfl ?_
  refine J_iconst 1 C iX10_sum_165 rfl ?_
  refine J_isub C iX10_sum_166 ?_
  rw [show (nI (r9.length + 1)) - 1 = nI r9.length from nI_dec]
  refine J_iald 16 C iX10_sum_167 rfl (vp_in_nI (n := r9.length) (by omega) (by decide)) ?_
  rw [nI_clamp (n := r9.length) (by omega)]
  refine J_aload_n C iX10_sum_168 rfl rfl ?_
  refine J_get (.ref (mo 16)) 0 C iX10_sum_169 gf_X10_67 rfl rfl ?_
  refine J_iload_n C iX10_sum_172 rfl rfl ?_
  refine J_iald 16 C iX10_sum_173 rfl (vp_in_nI (n := (r9.length + 1)) (by omega) (by decide)) ?_
  rw [nI_clamp (n := (r9.length + 1)) (by omega)]
  refine J_st (.int y9 :: .int x9 :: .int 108 :: .int (nI r9.length) :: .ref (mo 16) :: []) (by rw [show sk5 (r9.length + 1) = y9 from hI.2.1.1, show sk5 r9.length = x9 from hI.2.1.2.1]) ?_
  refine J_cSp (As := [.int 108, .int x9, .int y9]) (st := .int (nI r9.length) :: .ref (mo 16) :: []) C iX10_sum_174 lm_X10_214 yc_X10_reckon ys_X10_reckon (c_X10_reckon_18 (a := x9) (b := y9)) rfl (rmK_le (by omega) (by decide)) (Nat.le_of_ble_eq_true rfl) ⟨rfl, rfl⟩ ?_
  rintro _ rfl
  refine J_st (.int (rcM 18 x9 y9) :: .int (nI r9.length) :: .ref (mo 16) :: []) rfl ?_
  refine J_iast (wMd Z mo pl th sz ea tk dp lr dy ca kn5 tp kd fr me va wo pc ht fs la kh kf kl sh5 dk5 (upd sk5 (nI r9.length).toNatClampNeg (rcM 18 x9 y9)) ++ wPl Z pl (nI N) ls mn hn ha hh dz wh bg en od wi al) 16 C iX10_sum_177 rfl (vp_in_nI (n := r9.length) (by omega) (by decide)) rfl ?_
  rw [nI_clamp (n := r9.length) (by omega)]
  refine J_iinc ((nI k) + 1) [(4, .int ((nI k) + 1)), (3, .int (nI (r9.length + 1))), (5, .int 108), (0, .ref (mo 0)), (1, .int (nI y)), (2, .int (nI x))] C iX10_sum_178 rfl rfl (by decide) rfl ?_
  rw [show (nI k) + 1 = nI (k + 1) from nI_add _ _]
  refine J_goto 17 C iX10_sum_181 rfl ?_
  refine J_lvm [(3, .int (nI (r9.length + 1))), (4, .int (nI (k + 1))), (0, .ref (mo 0)), (1, .int (nI y)), (2, .int (nI x))] rfl ?_
  exact ih (kn5, sh5, dk5, upd sk5 r9.length (rcM 18 x9 y9), (rcM 18 x9 y9) :: r9, true :: tr9) (by dsimp only; exact ⟨hI.1, ⟨upd_s, skl_upd (Nat.le_refl _) hI.2.1.2.2⟩, ⟨(fun _ => rcM_b (by decide) (by decide) h01), hT9⟩, by simp only [List.length_cons]; omega, fun _ => hty2, by rw [← hI.2.2.2.2.2, evL_s hk, ho, evS_two (by decide) (by decide) (by omega) h01]⟩)

set_option maxRecDepth 100000 in
set_option maxHeartbeats 4000000 in
theorem sum_b19 {Z : GZ} {X : CX} {Q : State → Prop} {mo pl : Nat → Nat} {N : Nat} {th sz ea tk dp lr dy ca ls mn : Int32} {hn va : Nat → Int64} {ha hh dz wh bg en od wi al tp kd fr me wo pc ht fs la kh kf kl : Nat → Int32} {y x s0 s1 k : Nat} {o g j : Nat → Int32} {b : Bool} {kn5 : Bool} {sh5 dk5 sk5 : Nat → Int32} {xs5 : List Int32} {ts5 t2 : List Bool} (C : Cx Z X cX10_sum 6 RX10) (hN : N ≤ 12) (hy : y < 16) (hx : x < 3) (hk0 : s0 ≤ k) (hk : k < s1) (h400 : s1 ≤ 400) (hI : (kn5 = true → LkOk N pc ht fs la sh5 dk5) ∧ SkL sk5 xs5 ∧ TyL ts5 xs5 ∧ xs5.length + s0 ≤ k ∧ (s0 < s1 → tyR o k (s1 - k) ts5 = some [b]) ∧ evL (lfI N dy pc ht fs la) o g j k (s1 - k) xs5 = evL (lfI N dy pc ht fs la) o g j s0 (s1 - s0) []) (ho : o k = nI 19) (hod : od k = omN 19) (r0 : 19 = 0 → wi k = g k) (rn : (19 = 3 ∨ 19 = 4 ∨ 19 = 5 ∨ 19 = 6 ∨ 19 = 7) → wi k = g k ∧ ∃ h, h < N ∧ g k = nI h) (r6 : 19 = 6 → al k = j k ∧ ∃ h, h < N ∧ j k = nI h) (hty1 : tyC 19 ts5 = some t2) (hty2 : tyR o (k + 1) (s1 - (k + 1)) t2 = some [b]) (ih : ∀ q : Bool × (Nat → Int32) × (Nat → Int32) × (Nat → Int32) × (List Int32) × (List Bool), ((q.1 = true → LkOk N pc ht fs la q.2.1 q.2.2.1) ∧ SkL q.2.2.2.1 q.2.2.2.2.1 ∧ TyL q.2.2.2.2.2 q.2.2.2.2.1 ∧ q.2.2.2.2.1.length + s0 ≤ (k + 1) ∧ (s0 < s1 → tyR o (k + 1) (s1 - (k + 1)) q.2.2.2.2.2 = some [b]) ∧ evL (lfI N dy pc ht fs la) o g j (k + 1) (s1 - (k + 1)) q.2.2.2.2.1 = evL (lfI N dy pc ht fs la) o g j s0 (s1 - s0) []) → Jd Z X (rmK 8) 6 Q (rmK 8).cells (rmK 8).slots 17 [(3, .int (nI q.2.2.2.2.1.length)), (4, .int (nI (k + 1))), (0, .ref (mo 0)), (1, .int (nI y)), (2, .int (nI x))] [] (wMd Z mo pl th sz ea tk dp lr dy ca q.1 tp kd fr me va wo pc ht fs la kh kf kl q.2.1 q.2.2.1 q.2.2.2.1 ++ wPl Z pl (nI N) ls mn hn ha hh dz wh bg en od wi al)) : Jd Z X (rmK 8) 6 Q (rmK 8).cells (rmK 8).slots 35 [(3, .int (nI xs5.length)), (4, .int (nI k)), (0, .ref (mo 0)), (1, .int (nI y)), (2, .int (nI x))] [] (wMd Z mo pl th sz ea tk dp lr dy ca kn5 tp kd fr me va wo pc ht fs la kh kf kl sh5 dk5 sk5 ++ wPl Z pl (nI N) ls mn hn ha hh dz wh bg en od wi al) := by
  obtain ⟨y9, x9, r9, tr9, rfl, rfl, hT9, h01⟩ := ty_two (by decide) (by decide) hty1 hI.2.2.1
  have hl9 := hI.2.2.2.1
  simp only [List.length_cons] at hl9
  refine J_lvm [(3, .int (nI (r9.length + 2))), (4, .int (nI k)), (0, .ref (mo 0)), (1, .int (nI y)), (2, .int (nI x))] (by rfl) ?_
  refine J_aload_n C iX10_sum_35 rfl rfl ?_
  refine J_get (.ref (pl 0)) 0 C iX10_sum_36 gf_X10_20 rfl rfl ?_
  refine J_get (.ref (pl 8)) 17 C iX10_sum_39 gf_X10_198 rfl rfl ?_
  refine J_iload C iX10_sum_42 rfl ?_
  refine J_iald 25 C iX10_sum_44 rfl (vp_in_nI (n := k) (by omega) (by decide)) ?_
  rw [nI_clamp (n := k) (by omega)]
  refine J_istore [(5, .int (od k)), (3, .int (nI (r9.length + 2))), (4, .int (nI k)), (0, .ref (mo 0)), (1, .int (nI y)), (2, .int (nI x))] C iX10_sum_45 (by decide) rfl ?_
  refine J_lvm [(5, .int 109), (3, .int (nI (r9.length + 2))), (4, .int (nI k)), (0, .ref (mo 0)), (1, .int (nI y)), (2, .int (nI x))] (by rw [hod]; rfl) ?_
  refine J_iload C iX10_sum_47 rfl ?_
  refine J_cSp (As := [.int 109]) (st := []) C iX10_sum_49 lm_X10_201 yc_X10_isAsked ys_X10_isAsked (c_X10_isAsked (x := 109)) rfl (rmK_le (by omega) (by decide)) (Nat.le_of_ble_eq_true rfl) ⟨rfl, rfl⟩ ?_
  rintro _ rfl
  refine J_st (.int (b2i (askB 109)) :: []) rfl ?_
  refine J_ifeqb 93 C iX10_sum_52 rfl (fun h52 => ?_) (fun h52 => absurd (h52.symm.trans (by decide : askB 109 = false)) (by decide))
  refine J_iload C iX10_sum_93 rfl ?_
  refine J_bipush 105 C iX10_sum_95 rfl ?_
  refine J_icmpne 120 C iX10_sum_97 rfl (fun h97 => ?_) (fun h97 => absurd h97 (by decide))
  refine J_iload C iX10_sum_120 rfl ?_
  refine J_bipush 19 C iX10_sum_122 rfl ?_
  refine J_icmpne 148 C iX10_sum_124 rfl (fun h124 => ?_) (fun h124 => absurd h124 (by decide))
  refine J_iinc (nI (r9.length + 2) + (-1)) [(3, .int (nI (r9.length + 2) + (-1))), (5, .int 109), (4, .int (nI k)), (0, .ref (mo 0)), (1, .int (nI y)), (2, .int (nI x))] C iX10_sum_148 rfl rfl (by decide) rfl ?_
  rw [show nI (r9.length + 2) + (-1) = nI (r9.length + 1) from nI_dec2]
  refine J_aload_n C iX10_sum_151 rfl rfl ?_
  refine J_get (.ref (mo 16)) 0 C iX10_sum_152 gf_X10_67 rfl rfl ?_
  refine J_iload_n C iX10_sum_155 rfl rfl ?_
  refine J_iconst 1 C iX10_sum_156 rfl ?_
  refine J_isub C iX10_sum_157 ?_
  rw [show (nI (r9.length + 1)) - 1 = nI r9.length from nI_dec]
  refine J_iload C iX10_sum_158 rfl ?_
  refine J_aload_n C iX10_sum_160 rfl rfl ?_
  refine J_get (.ref (mo 16)) 0 C iX10_sum_161 gf_X10_67 rfl rfl ?_
  refine J_iload_n C iX10_sum_164 rfl rfl ?_
  refine J_iconst 1 C iX10_sum_165 rfl ?_
  refine J_isub C iX10_sum_166 ?_
  rw [show (nI (r9.length + 1)) - 1 = nI r9.length from nI_dec]
  refine J_iald 16 C iX10_sum_167 rfl (vp_in_nI (n := r9.length) (by omega) (by decide)) ?_
  rw [nI_clamp (n := r9.length) (by omega)]
  refine J_aload_n C iX10_sum_168 rfl rfl ?_
  refine J_get (.ref (mo 16)) 0 C iX10_sum_169 gf_X10_67 rfl rfl ?_
  refine J_iload_n C iX10_sum_172 rfl rfl ?_
  refine J_iald 16 C iX10_sum_173 rfl (vp_in_nI (n := (r9.length + 1)) (by omega) (by decide)) ?_
  rw [nI_clamp (n := (r9.length + 1)) (by omega)]
  refine J_st (.int y9 :: .int x9 :: .int 109 :: .int (nI r9.length) :: .ref (mo 16) :: []) (by rw [show sk5 (r9.length + 1) = y9 from hI.2.1.1, show sk5 r9.length = x9 from hI.2.1.2.1]) ?_
  refine J_cSp (As := [.int 109, .int x9, .int y9]) (st := .int (nI r9.length) :: .ref (mo 16) :: []) C iX10_sum_174 lm_X10_214 yc_X10_reckon ys_X10_reckon (c_X10_reckon_19 (a := x9) (b := y9)) rfl (rmK_le (by omega) (by decide)) (Nat.le_of_ble_eq_true rfl) ⟨rfl, rfl⟩ ?_
  rintro _ rfl
  refine J_st (.int (rcM 19 x9 y9) :: .int (nI r9.length) :: .ref (mo 16) :: []) rfl ?_
  refine J_iast (wMd Z mo pl th sz ea tk dp lr dy ca kn5 tp kd fr me va wo pc ht fs la kh kf kl sh5 dk5 (upd sk5 (nI r9.length).toNatClampNeg (rcM 19 x9 y9)) ++ wPl Z pl (nI N) ls mn hn ha hh dz wh bg en od wi al) 16 C iX10_sum_177 rfl (vp_in_nI (n := r9.length) (by omega) (by decide)) rfl ?_
  rw [nI_clamp (n := r9.length) (by omega)]
  refine J_iinc ((nI k) + 1) [(4, .int ((nI k) + 1)), (3, .int (nI (r9.length + 1))), (5, .int 109), (0, .ref (mo 0)), (1, .int (nI y)), (2, .int (nI x))] C iX10_sum_178 rfl rfl (by decide) rfl ?_
  rw [show (nI k) + 1 = nI (k + 1) from nI_add _ _]
  refine J_goto 17 C iX10_sum_181 rfl ?_
  refine J_lvm [(3, .int (nI (r9.length + 1))), (4, .int (nI (k + 1))), (0, .ref (mo 0)), (1, .int (nI y)), (2, .int (nI x))] rfl ?_
  exact ih (kn5, sh5, dk5, upd sk5 r9.length (rcM 19 x9 y9), (rcM 19 x9 y9) :: r9, true :: tr9) (by dsimp only; exact ⟨hI.1, ⟨upd_s, skl_upd (Nat.le_refl _) hI.2.1.2.2⟩, ⟨(fun _ => rcM_b (by decide) (by decide) h01), hT9⟩, by simp only [List.length_cons]; omega, fun _ => hty2, by rw [← hI.2.2.2.2.2, evL_s hk, ho, evS_two (by decide) (by decide) (by omega) h01]⟩)

set_option maxRecDepth 100000 in
set_option maxHeartbeats 4000000 in
theorem sum_b20 {Z : GZ} {X : CX} {Q : State → Prop} {mo pl : Nat → Nat} {N : Nat} {th sz ea tk dp lr dy ca ls mn : Int32} {hn va : Nat → Int64} {ha hh dz wh bg en od wi al tp kd fr me wo pc ht fs la kh kf kl : Nat → Int32} {y x s0 s1 k : Nat} {o g j : Nat → Int32} {b : Bool} {kn5 : Bool} {sh5 dk5 sk5 : Nat → Int32} {xs5 : List Int32} {ts5 t2 : List Bool} (C : Cx Z X cX10_sum 6 RX10) (hN : N ≤ 12) (hy : y < 16) (hx : x < 3) (hk0 : s0 ≤ k) (hk : k < s1) (h400 : s1 ≤ 400) (hI : (kn5 = true → LkOk N pc ht fs la sh5 dk5) ∧ SkL sk5 xs5 ∧ TyL ts5 xs5 ∧ xs5.length + s0 ≤ k ∧ (s0 < s1 → tyR o k (s1 - k) ts5 = some [b]) ∧ evL (lfI N dy pc ht fs la) o g j k (s1 - k) xs5 = evL (lfI N dy pc ht fs la) o g j s0 (s1 - s0) []) (ho : o k = nI 20) (hod : od k = omN 20) (r0 : 20 = 0 → wi k = g k) (rn : (20 = 3 ∨ 20 = 4 ∨ 20 = 5 ∨ 20 = 6 ∨ 20 = 7) → wi k = g k ∧ ∃ h, h < N ∧ g k = nI h) (r6 : 20 = 6 → al k = j k ∧ ∃ h, h < N ∧ j k = nI h) (hty1 : tyC 20 ts5 = some t2) (hty2 : tyR o (k + 1) (s1 - (k + 1)) t2 = some [b]) (ih : ∀ q : Bool × (Nat → Int32) × (Nat → Int32) × (Nat → Int32) × (List Int32) × (List Bool), ((q.1 = true → LkOk N pc ht fs la q.2.1 q.2.2.1) ∧ SkL q.2.2.2.1 q.2.2.2.2.1 ∧ TyL q.2.2.2.2.2 q.2.2.2.2.1 ∧ q.2.2.2.2.1.length + s0 ≤ (k + 1) ∧ (s0 < s1 → tyR o (k + 1) (s1 - (k + 1)) q.2.2.2.2.2 = some [b]) ∧ evL (lfI N dy pc ht fs la) o g j (k + 1) (s1 - (k + 1)) q.2.2.2.2.1 = evL (lfI N dy pc ht fs la) o g j s0 (s1 - s0) []) → Jd Z X (rmK 8) 6 Q (rmK 8).cells (rmK 8).slots 17 [(3, .int (nI q.2.2.2.2.1.length)), (4, .int (nI (k + 1))), (0, .ref (mo 0)), (1, .int (nI y)), (2, .int (nI x))] [] (wMd Z mo pl th sz ea tk dp lr dy ca q.1 tp kd fr me va wo pc ht fs la kh kf kl q.2.1 q.2.2.1 q.2.2.2.1 ++ wPl Z pl (nI N) ls mn hn ha hh dz wh bg en od wi al)) : Jd Z X (rmK 8) 6 Q (rmK 8).cells (rmK 8).slots 35 [(3, .int (nI xs5.length)), (4, .int (nI k)), (0, .ref (mo 0)), (1, .int (nI y)), (2, .int (nI x))] [] (wMd Z mo pl th sz ea tk dp lr dy ca kn5 tp kd fr me va wo pc ht fs la kh kf kl sh5 dk5 sk5 ++ wPl Z pl (nI N) ls mn hn ha hh dz wh bg en od wi al) := by
  obtain ⟨y9, x9, r9, tr9, rfl, rfl, hT9, h01⟩ := ty_two (by decide) (by decide) hty1 hI.2.2.1
  have hl9 := hI.2.2.2.1
  simp only [List.length_cons] at hl9
  refine J_lvm [(3, .int (nI (r9.length + 2))), (4, .int (nI k)), (0, .ref (mo 0)), (1, .int (nI y)), (2, .int (nI x))] (by rfl) ?_
  refine J_aload_n C iX10_sum_35 rfl rfl ?_
  refine J_get (.ref (pl 0)) 0 C iX10_sum_36 gf_X10_20 rfl rfl ?_
  refine J_get (.ref (pl 8)) 17 C iX10_sum_39 gf_X10_198 rfl rfl ?_
  refine J_iload C iX10_sum_42 rfl ?_
  refine J_iald 25 C iX10_sum_44 rfl (vp_in_nI (n := k) (by omega) (by decide)) ?_
  rw [nI_clamp (n := k) (by omega)]
  refine J_istore [(5, .int (od k)), (3, .int (nI (r9.length + 2))), (4, .int (nI k)), (0, .ref (mo 0)), (1, .int (nI y)), (2, .int (nI x))] C iX10_sum_45 (by decide) rfl ?_
  refine J_lvm [(5, .int 110), (3, .int (nI (r9.length + 2))), (4, .int (nI k)), (0, .ref (mo 0)), (1, .int (nI y)), (2, .int (nI x))] (by rw [hod]; rfl) ?_
  refine J_iload C iX10_sum_47 rfl ?_
  refine J_cSp (As := [.int 110]) (st := []) C iX10_sum_49 lm_X10_201 yc_X10_isAsked ys_X10_isAsked (c_X10_isAsked (x := 110)) rfl (rmK_le (by omega) (by decide)) (Nat.le_of_ble_eq_true rfl) ⟨rfl, rfl⟩ ?_
  rintro _ rfl
  refine J_st (.int (b2i (askB 110)) :: []) rfl ?_
  refine J_ifeqb 93 C iX10_sum_52 rfl (fun h52 => ?_) (fun h52 => absurd (h52.symm.trans (by decide : askB 110 = false)) (by decide))
  refine J_iload C iX10_sum_93 rfl ?_
  refine J_bipush 105 C iX10_sum_95 rfl ?_
  refine J_icmpne 120 C iX10_sum_97 rfl (fun h97 => ?_) (fun h97 => absurd h97 (by decide))
  refine J_iload C iX10_sum_120 rfl ?_
  refine J_bipush 19 C iX10_sum_122 rfl ?_
  refine J_icmpne 148 C iX10_sum_124 rfl (fun h124 => ?_) (fun h124 => absurd h124 (by decide))
  refine J_iinc (nI (r9.length + 2) + (-1)) [(3, .int (nI (r9.length + 2) + (-1))), (5, .int 110), (4, .int (nI k)), (0, .ref (mo 0)), (1, .int (nI y)), (2, .int (nI x))] C iX10_sum_148 rfl rfl (by decide) rfl ?_
  rw [show nI (r9.length + 2) + (-1) = nI (r9.length + 1) from nI_dec2]
  refine J_aload_n C iX10_sum_151 rfl rfl ?_
  refine J_get (.ref (mo 16)) 0 C iX10_sum_152 gf_X10_67 rfl rfl ?_
  refine J_iload_n C iX10_sum_155 rfl rfl ?_
  refine J_iconst 1 C iX10_sum_156 rfl ?_
  refine J_isub C iX10_sum_157 ?_
  rw [show (nI (r9.length + 1)) - 1 = nI r9.length from nI_dec]
  refine J_iload C iX10_sum_158 rfl ?_
  refine J_aload_n C iX10_sum_160 rfl rfl ?_
  refine J_get (.ref (mo 16)) 0 C iX10_sum_161 gf_X10_67 rfl rfl ?_
  refine J_iload_n C iX10_sum_164 rfl rfl ?_
  refine J_iconst 1 C iX10_sum_165 rfl ?_
  refine J_isub C iX10_sum_166 ?_
  rw [show (nI (r9.length + 1)) - 1 = nI r9.length from nI_dec]
  refine J_iald 16 C iX10_sum_167 rfl (vp_in_nI (n := r9.length) (by omega) (by decide)) ?_
  rw [nI_clamp (n := r9.length) (by omega)]
  refine J_aload_n C iX10_sum_168 rfl rfl ?_
  refine J_get (.ref (mo 16)) 0 C iX10_sum_169 gf_X10_67 rfl rfl ?_
  refine J_iload_n C iX10_sum_172 rfl rfl ?_
  refine J_iald 16 C iX10_sum_173 rfl (vp_in_nI (n := (r9.length + 1)) (by omega) (by decide)) ?_
  rw [nI_clamp (n := (r9.length + 1)) (by omega)]
  refine J_st (.int y9 :: .int x9 :: .int 110 :: .int (nI r9.length) :: .ref (mo 16) :: []) (by rw [show sk5 (r9.length + 1) = y9 from hI.2.1.1, show sk5 r9.length = x9 from hI.2.1.2.1]) ?_
  refine J_cSp (As := [.int 110, .int x9, .int y9]) (st := .int (nI r9.length) :: .ref (mo 16) :: []) C iX10_sum_174 lm_X10_214 yc_X10_reckon ys_X10_reckon (c_X10_reckon_20 (a := x9) (b := y9)) rfl (rmK_le (by omega) (by decide)) (Nat.le_of_ble_eq_true rfl) ⟨rfl, rfl⟩ ?_
  rintro _ rfl
  refine J_st (.int (rcM 20 x9 y9) :: .int (nI r9.length) :: .ref (mo 16) :: []) rfl ?_
  refine J_iast (wMd Z mo pl th sz ea tk dp lr dy ca kn5 tp kd fr me va wo pc ht fs la kh kf kl sh5 dk5 (upd sk5 (nI r9.length).toNatClampNeg (rcM 20 x9 y9)) ++ wPl Z pl (nI N) ls mn hn ha hh dz wh bg en od wi al) 16 C iX10_sum_177 rfl (vp_in_nI (n := r9.length) (by omega) (by decide)) rfl ?_
  rw [nI_clamp (n := r9.length) (by omega)]
  refine J_iinc ((nI k) + 1) [(4, .int ((nI k) + 1)), (3, .int (nI (r9.length + 1))), (5, .int 110), (0, .ref (mo 0)), (1, .int (nI y)), (2, .int (nI x))] C iX10_sum_178 rfl rfl (by decide) rfl ?_
  rw [show (nI k) + 1 = nI (k + 1) from nI_add _ _]
  refine J_goto 17 C iX10_sum_181 rfl ?_
  refine J_lvm [(3, .int (nI (r9.length + 1))), (4, .int (nI (k + 1))), (0, .ref (mo 0)), (1, .int (nI y)), (2, .int (nI x))] rfl ?_
  exact ih (kn5, sh5, dk5, upd sk5 r9.length (rcM 20 x9 y9), (rcM 20 x9 y9) :: r9, true :: tr9) (by dsimp only; exact ⟨hI.1, ⟨upd_s, skl_upd (Nat.le_refl _) hI.2.1.2.2⟩, ⟨(fun _ => rcM_b (by decide) (by decide) h01), hT9⟩, by simp only [List.length_cons]; omega, fun _ => hty2, by rw [← hI.2.2.2.2.2, evL_s hk, ho, evS_two (by decide) (by decide) (by omega) h01]⟩)

set_option maxRecDepth 100000 in
set_option maxHeartbeats 4000000 in
theorem sum_b21 {Z : GZ} {X : CX} {Q : State → Prop} {mo pl : Nat → Nat} {N : Nat} {th sz ea tk dp lr dy ca ls mn : Int32} {hn va : Nat → Int64} {ha hh dz wh bg en od wi al tp kd fr me wo pc ht fs la kh kf kl : Nat → Int32} {y x s0 s1 k : Nat} {o g j : Nat → Int32} {b : Bool} {kn5 : Bool} {sh5 dk5 sk5 : Nat → Int32} {xs5 : List Int32} {ts5 t2 : List Bool} (C : Cx Z X cX10_sum 6 RX10) (hN : N ≤ 12) (hy : y < 16) (hx : x < 3) (hk0 : s0 ≤ k) (hk : k < s1) (h400 : s1 ≤ 400) (hI : (kn5 = true → LkOk N pc ht fs la sh5 dk5) ∧ SkL sk5 xs5 ∧ TyL ts5 xs5 ∧ xs5.length + s0 ≤ k ∧ (s0 < s1 → tyR o k (s1 - k) ts5 = some [b]) ∧ evL (lfI N dy pc ht fs la) o g j k (s1 - k) xs5 = evL (lfI N dy pc ht fs la) o g j s0 (s1 - s0) []) (ho : o k = nI 21) (hod : od k = omN 21) (r0 : 21 = 0 → wi k = g k) (rn : (21 = 3 ∨ 21 = 4 ∨ 21 = 5 ∨ 21 = 6 ∨ 21 = 7) → wi k = g k ∧ ∃ h, h < N ∧ g k = nI h) (r6 : 21 = 6 → al k = j k ∧ ∃ h, h < N ∧ j k = nI h) (hty1 : tyC 21 ts5 = some t2) (hty2 : tyR o (k + 1) (s1 - (k + 1)) t2 = some [b]) (ih : ∀ q : Bool × (Nat → Int32) × (Nat → Int32) × (Nat → Int32) × (List Int32) × (List Bool), ((q.1 = true → LkOk N pc ht fs la q.2.1 q.2.2.1) ∧ SkL q.2.2.2.1 q.2.2.2.2.1 ∧ TyL q.2.2.2.2.2 q.2.2.2.2.1 ∧ q.2.2.2.2.1.length + s0 ≤ (k + 1) ∧ (s0 < s1 → tyR o (k + 1) (s1 - (k + 1)) q.2.2.2.2.2 = some [b]) ∧ evL (lfI N dy pc ht fs la) o g j (k + 1) (s1 - (k + 1)) q.2.2.2.2.1 = evL (lfI N dy pc ht fs la) o g j s0 (s1 - s0) []) → Jd Z X (rmK 8) 6 Q (rmK 8).cells (rmK 8).slots 17 [(3, .int (nI q.2.2.2.2.1.length)), (4, .int (nI (k + 1))), (0, .ref (mo 0)), (1, .int (nI y)), (2, .int (nI x))] [] (wMd Z mo pl th sz ea tk dp lr dy ca q.1 tp kd fr me va wo pc ht fs la kh kf kl q.2.1 q.2.2.1 q.2.2.2.1 ++ wPl Z pl (nI N) ls mn hn ha hh dz wh bg en od wi al)) : Jd Z X (rmK 8) 6 Q (rmK 8).cells (rmK 8).slots 35 [(3, .int (nI xs5.length)), (4, .int (nI k)), (0, .ref (mo 0)), (1, .int (nI y)), (2, .int (nI x))] [] (wMd Z mo pl th sz ea tk dp lr dy ca kn5 tp kd fr me va wo pc ht fs la kh kf kl sh5 dk5 sk5 ++ wPl Z pl (nI N) ls mn hn ha hh dz wh bg en od wi al) := by
  obtain ⟨y9, x9, r9, tr9, rfl, rfl, hT9, h01⟩ := ty_two (by decide) (by decide) hty1 hI.2.2.1
  have hl9 := hI.2.2.2.1
  simp only [List.length_cons] at hl9
  refine J_lvm [(3, .int (nI (r9.length + 2))), (4, .int (nI k)), (0, .ref (mo 0)), (1, .int (nI y)), (2, .int (nI x))] (by rfl) ?_
  refine J_aload_n C iX10_sum_35 rfl rfl ?_
  refine J_get (.ref (pl 0)) 0 C iX10_sum_36 gf_X10_20 rfl rfl ?_
  refine J_get (.ref (pl 8)) 17 C iX10_sum_39 gf_X10_198 rfl rfl ?_
  refine J_iload C iX10_sum_42 rfl ?_
  refine J_iald 25 C iX10_sum_44 rfl (vp_in_nI (n := k) (by omega) (by decide)) ?_
  rw [nI_clamp (n := k) (by omega)]
  refine J_istore [(5, .int (od k)), (3, .int (nI (r9.length + 2))), (4, .int (nI k)), (0, .ref (mo 0)), (1, .int (nI y)), (2, .int (nI x))] C iX10_sum_45 (by decide) rfl ?_
  refine J_lvm [(5, .int 20), (3, .int (nI (r9.length + 2))), (4, .int (nI k)), (0, .ref (mo 0)), (1, .int (nI y)), (2, .int (nI x))] (by rw [hod]; rfl) ?_
  refine J_iload C iX10_sum_47 rfl ?_
  refine J_cSp (As := [.int 20]) (st := []) C iX10_sum_49 lm_X10_201 yc_X10_isAsked ys_X10_isAsked (c_X10_isAsked (x := 20)) rfl (rmK_le (by omega) (by decide)) (Nat.le_of_ble_eq_true rfl) ⟨rfl, rfl⟩ ?_
  rintro _ rfl
  refine J_st (.int (b2i (askB 20)) :: []) rfl ?_
  refine J_ifeqb 93 C iX10_sum_52 rfl (fun h52 => ?_) (fun h52 => absurd (h52.symm.trans (by decide : askB 20 = false)) (by decide))
  refine J_iload C iX10_sum_93 rfl ?_
  refine J_bipush 105 C iX10_sum_95 rfl ?_
  refine J_icmpne 120 C iX10_sum_97 rfl (fun h97 => ?_) (fun h97 => absurd h97 (by decide))
  refine J_iload C iX10_sum_120 rfl ?_
  refine J_bipush 19 C iX10_sum_122 rfl ?_
  refine J_icmpne 148 C iX10_sum_124 rfl (fun h124 => ?_) (fun h124 => absurd h124 (by decide))
  refine J_iinc (nI (r9.length + 2) + (-1)) [(3, .int (nI (r9.length + 2) + (-1))), (5, .int 20), (4, .int (nI k)), (0, .ref (mo 0)), (1, .int (nI y)), (2, .int (nI x))] C iX10_sum_148 rfl rfl (by decide) rfl ?_
  rw [show nI (r9.length + 2) + (-1) = nI (r9.length + 1) from nI_dec2]
  refine J_aload_n C iX10_sum_151 rfl rfl ?_
  refine J_get (.ref (mo 16)) 0 C iX10_sum_152 gf_X10_67 rfl rfl ?_
  refine J_iload_n C iX10_sum_155 rfl rfl ?_
  refine J_iconst 1 C iX10_sum_156 rfl ?_
  refine J_isub C iX10_sum_157 ?_
  rw [show (nI (r9.length + 1)) - 1 = nI r9.length from nI_dec]
  refine J_iload C iX10_sum_158 rfl ?_
  refine J_aload_n C iX10_sum_160 rfl rfl ?_
  refine J_get (.ref (mo 16)) 0 C iX10_sum_161 gf_X10_67 rfl rfl ?_
  refine J_iload_n C iX10_sum_164 rfl rfl ?_
  refine J_iconst 1 C iX10_sum_165 rfl ?_
  refine J_isub C iX10_sum_166 ?_
  rw [show (nI (r9.length + 1)) - 1 = nI r9.length from nI_dec]
  refine J_iald 16 C iX10_sum_167 rfl (vp_in_nI (n := r9.length) (by omega) (by decide)) ?_
  rw [nI_clamp (n := r9.length) (by omega)]
  refine J_aload_n C iX10_sum_168 rfl rfl ?_
  refine J_get (.ref (mo 16)) 0 C iX10_sum_169 gf_X10_67 rfl rfl ?_
  refine J_iload_n C iX10_sum_172 rfl rfl ?_
  refine J_iald 16 C iX10_sum_173 rfl (vp_in_nI (n := (r9.length + 1)) (by omega) (by decide)) ?_
  rw [nI_clamp (n := (r9.length + 1)) (by omega)]
  refine J_st (.int y9 :: .int x9 :: .int 20 :: .int (nI r9.length) :: .ref (mo 16) :: []) (by rw [show sk5 (r9.length + 1) = y9 from hI.2.1.1, show sk5 r9.length = x9 from hI.2.1.2.1]) ?_
  refine J_cSp (As := [.int 20, .int x9, .int y9]) (st := .int (nI r9.length) :: .ref (mo 16) :: []) C iX10_sum_174 lm_X10_214 yc_X10_reckon ys_X10_reckon (c_X10_reckon_21 (a := x9) (b := y9)) rfl (rmK_le (by omega) (by decide)) (Nat.le_of_ble_eq_true rfl) ⟨rfl, rfl⟩ ?_
  rintro _ rfl
  refine J_st (.int (rcM 21 x9 y9) :: .int (nI r9.length) :: .ref (mo 16) :: []) rfl ?_
  refine J_iast (wMd Z mo pl th sz ea tk dp lr dy ca kn5 tp kd fr me va wo pc ht fs la kh kf kl sh5 dk5 (upd sk5 (nI r9.length).toNatClampNeg (rcM 21 x9 y9)) ++ wPl Z pl (nI N) ls mn hn ha hh dz wh bg en od wi al) 16 C iX10_sum_177 rfl (vp_in_nI (n := r9.length) (by omega) (by decide)) rfl ?_
  rw [nI_clamp (n := r9.length) (by omega)]
  refine J_iinc ((nI k) + 1) [(4, .int ((nI k) + 1)), (3, .int (nI (r9.length + 1))), (5, .int 20), (0, .ref (mo 0)), (1, .int (nI y)), (2, .int (nI x))] C iX10_sum_178 rfl rfl (by decide) rfl ?_
  rw [show (nI k) + 1 = nI (k + 1) from nI_add _ _]
  refine J_goto 17 C iX10_sum_181 rfl ?_
  refine J_lvm [(3, .int (nI (r9.length + 1))), (4, .int (nI (k + 1))), (0, .ref (mo 0)), (1, .int (nI y)), (2, .int (nI x))] rfl ?_
  exact ih (kn5, sh5, dk5, upd sk5 r9.length (rcM 21 x9 y9), (rcM 21 x9 y9) :: r9, true :: tr9) (by dsimp only; exact ⟨hI.1, ⟨upd_s, skl_upd (Nat.le_refl _) hI.2.1.2.2⟩, ⟨(fun _ => rcM_b (by decide) (by decide) h01), hT9⟩, by simp only [List.length_cons]; omega, fun _ => hty2, by rw [← hI.2.2.2.2.2, evL_s hk, ho, evS_two (by decide) (by decide) (by omega) h01]⟩)

set_option maxRecDepth 100000 in
set_option maxHeartbeats 4000000 in
theorem sum_b22 {Z : GZ} {X : CX} {Q : State → Prop} {mo pl : Nat → Nat} {N : Nat} {th sz ea tk dp lr dy ca ls mn : Int32} {hn va : Nat → Int64} {ha hh dz wh bg en od wi al tp kd fr me wo pc ht fs la kh kf kl : Nat → Int32} {y x s0 s1 k : Nat} {o g j : Nat → Int32} {b : Bool} {kn5 : Bool} {sh5 dk5 sk5 : Nat → Int32} {xs5 : List Int32} {ts5 t2 : List Bool} (C : Cx Z X cX10_sum 6 RX10) (hN : N ≤ 12) (hy : y < 16) (hx : x < 3) (hk0 : s0 ≤ k) (hk : k < s1) (h400 : s1 ≤ 400) (hI : (kn5 = true → LkOk N pc ht fs la sh5 dk5) ∧ SkL sk5 xs5 ∧ TyL ts5 xs5 ∧ xs5.length + s0 ≤ k ∧ (s0 < s1 → tyR o k (s1 - k) ts5 = some [b]) ∧ evL (lfI N dy pc ht fs la) o g j k (s1 - k) xs5 = evL (lfI N dy pc ht fs la) o g j s0 (s1 - s0) []) (ho : o k = nI 22) (hod : od k = omN 22) (r0 : 22 = 0 → wi k = g k) (rn : (22 = 3 ∨ 22 = 4 ∨ 22 = 5 ∨ 22 = 6 ∨ 22 = 7) → wi k = g k ∧ ∃ h, h < N ∧ g k = nI h) (r6 : 22 = 6 → al k = j k ∧ ∃ h, h < N ∧ j k = nI h) (hty1 : tyC 22 ts5 = some t2) (hty2 : tyR o (k + 1) (s1 - (k + 1)) t2 = some [b]) (ih : ∀ q : Bool × (Nat → Int32) × (Nat → Int32) × (Nat → Int32) × (List Int32) × (List Bool), ((q.1 = true → LkOk N pc ht fs la q.2.1 q.2.2.1) ∧ SkL q.2.2.2.1 q.2.2.2.2.1 ∧ TyL q.2.2.2.2.2 q.2.2.2.2.1 ∧ q.2.2.2.2.1.length + s0 ≤ (k + 1) ∧ (s0 < s1 → tyR o (k + 1) (s1 - (k + 1)) q.2.2.2.2.2 = some [b]) ∧ evL (lfI N dy pc ht fs la) o g j (k + 1) (s1 - (k + 1)) q.2.2.2.2.1 = evL (lfI N dy pc ht fs la) o g j s0 (s1 - s0) []) → Jd Z X (rmK 8) 6 Q (rmK 8).cells (rmK 8).slots 17 [(3, .int (nI q.2.2.2.2.1.length)), (4, .int (nI (k + 1))), (0, .ref (mo 0)), (1, .int (nI y)), (2, .int (nI x))] [] (wMd Z mo pl th sz ea tk dp lr dy ca q.1 tp kd fr me va wo pc ht fs la kh kf kl q.2.1 q.2.2.1 q.2.2.2.1 ++ wPl Z pl (nI N) ls mn hn ha hh dz wh bg en od wi al)) : Jd Z X (rmK 8) 6 Q (rmK 8).cells (rmK 8).slots 35 [(3, .int (nI xs5.length)), (4, .int (nI k)), (0, .ref (mo 0)), (1, .int (nI y)), (2, .int (nI x))] [] (wMd Z mo pl th sz ea tk dp lr dy ca kn5 tp kd fr me va wo pc ht fs la kh kf kl sh5 dk5 sk5 ++ wPl Z pl (nI N) ls mn hn ha hh dz wh bg en od wi al) := by
  obtain ⟨y9, x9, r9, tr9, rfl, rfl, hT9, h01⟩ := ty_two (by decide) (by decide) hty1 hI.2.2.1
  have hl9 := hI.2.2.2.1
  simp only [List.length_cons] at hl9
  refine J_lvm [(3, .int (nI (r9.length + 2))), (4, .int (nI k)), (0, .ref (mo 0)), (1, .int (nI y)), (2, .int (nI x))] (by rfl) ?_
  refine J_aload_n C iX10_sum_35 rfl rfl ?_
  refine J_get (.ref (pl 0)) 0 C iX10_sum_36 gf_X10_20 rfl rfl ?_
  refine J_get (.ref (pl 8)) 17 C iX10_sum_39 gf_X10_198 rfl rfl ?_
  refine J_iload C iX10_sum_42 rfl ?_
  refine J_iald 25 C iX10_sum_44 rfl (vp_in_nI (n := k) (by omega) (by decide)) ?_
  rw [nI_clamp (n := k) (by omega)]
  refine J_istore [(5, .int (od k)), (3, .int (nI (r9.length + 2))), (4, .int (nI k)), (0, .ref (mo 0)), (1, .int (nI y)), (2, .int (nI x))] C iX10_sum_45 (by decide) rfl ?_
  refine J_lvm [(5, .int 21), (3, .int (nI (r9.length + 2))), (4, .int (nI k)), (0, .ref (mo 0)), (1, .int (nI y)), (2, .int (nI x))] (by rw [hod]; rfl) ?_
  refine J_iload C iX10_sum_47 rfl ?_
  refine J_cSp (As := [.int 21]) (st := []) C iX10_sum_49 lm_X10_201 yc_X10_isAsked ys_X10_isAsked (c_X10_isAsked (x := 21)) rfl (rmK_le (by omega) (by decide)) (Nat.le_of_ble_eq_true rfl) ⟨rfl, rfl⟩ ?_
  rintro _ rfl
  refine J_st (.int (b2i (askB 21)) :: []) rfl ?_
  refine J_ifeqb 93 C iX10_sum_52 rfl (fun h52 => ?_) (fun h52 => absurd (h52.symm.trans (by decide : askB 21 = false)) (by decide))
  refine J_iload C iX10_sum_93 rfl ?_
  refine J_bipush 105 C iX10_sum_95 rfl ?_
  refine J_icmpne 120 C iX10_sum_97 rfl (fun h97 => ?_) (fun h97 => absurd h97 (by decide))
  refine J_iload C iX10_sum_120 rfl ?_
  refine J_bipush 19 C iX10_sum_122 rfl ?_
  refine J_icmpne 148 C iX10_sum_124 rfl (fun h124 => ?_) (fun h124 => absurd h124 (by decide))
  refine J_iinc (nI (r9.length + 2) + (-1)) [(3, .int (nI (r9.length + 2) + (-1))), (5, .int 21), (4, .int (nI k)), (0, .ref (mo 0)), (1, .int (nI y)), (2, .int (nI x))] C iX10_sum_148 rfl rfl (by decide) rfl ?_
  rw [show nI (r9.length + 2) + (-1) = nI (r9.length + 1) from nI_dec2]
  refine J_aload_n C iX10_sum_151 rfl rfl ?_
  refine J_get (.ref (mo 16)) 0 C iX10_sum_152 gf_X10_67 rfl rfl ?_
  refine J_iload_n C iX10_sum_155 rfl rfl ?_
  refine J_iconst 1 C iX10_sum_156 rfl ?_
  refine J_isub C iX10_sum_157 ?_
  rw [show (nI (r9.length + 1)) - 1 = nI r9.length from nI_dec]
  refine J_iload C iX10_sum_158 rfl ?_
  refine J_aload_n C iX10_sum_160 rfl rfl ?_
  refine J_get (.ref (mo 16)) 0 C iX10_sum_161 gf_X10_67 rfl rfl ?_
  refine J_iload_n C iX10_sum_164 rfl rfl ?_
  refine J_iconst 1 C iX10_sum_165 rfl ?_
  refine J_isub C iX10_sum_166 ?_
  rw [show (nI (r9.length + 1)) - 1 = nI r9.length from nI_dec]
  refine J_iald 16 C iX10_sum_167 rfl (vp_in_nI (n := r9.length) (by omega) (by decide)) ?_
  rw [nI_clamp (n := r9.length) (by omega)]
  refine J_aload_n C iX10_sum_168 rfl rfl ?_
  refine J_get (.ref (mo 16)) 0 C iX10_sum_169 gf_X10_67 rfl rfl ?_
  refine J_iload_n C iX10_sum_172 rfl rfl ?_
  refine J_iald 16 C iX10_sum_173 rfl (vp_in_nI (n := (r9.length + 1)) (by omega) (by decide)) ?_
  rw [nI_clamp (n := (r9.length + 1)) (by omega)]
  refine J_st (.int y9 :: .int x9 :: .int 21 :: .int (nI r9.length) :: .ref (mo 16) :: []) (by rw [show sk5 (r9.length + 1) = y9 from hI.2.1.1, show sk5 r9.length = x9 from hI.2.1.2.1]) ?_
  refine J_cSp (As := [.int 21, .int x9, .int y9]) (st := .int (nI r9.length) :: .ref (mo 16) :: []) C iX10_sum_174 lm_X10_214 yc_X10_reckon ys_X10_reckon (c_X10_reckon_22 (a := x9) (b := y9)) rfl (rmK_le (by omega) (by decide)) (Nat.le_of_ble_eq_true rfl) ⟨rfl, rfl⟩ ?_
  rintro _ rfl
  refine J_st (.int (rcM 22 x9 y9) :: .int (nI r9.length) :: .ref (mo 16) :: []) rfl ?_
  refine J_iast (wMd Z mo pl th sz ea tk dp lr dy ca kn5 tp kd fr me va wo pc ht fs la kh kf kl sh5 dk5 (upd sk5 (nI r9.length).toNatClampNeg (rcM 22 x9 y9)) ++ wPl Z pl (nI N) ls mn hn ha hh dz wh bg en od wi al) 16 C iX10_sum_177 rfl (vp_in_nI (n := r9.length) (by omega) (by decide)) rfl ?_
  rw [nI_clamp (n := r9.length) (by omega)]
  refine J_iinc ((nI k) + 1) [(4, .int ((nI k) + 1)), (3, .int (nI (r9.length + 1))), (5, .int 21), (0, .ref (mo 0)), (1, .int (nI y)), (2, .int (nI x))] C iX10_sum_178 rfl rfl (by decide) rfl ?_
  rw [show (nI k) + 1 = nI (k + 1) from nI_add _ _]
  refine J_goto 17 C iX10_sum_181 rfl ?_
  refine J_lvm [(3, .int (nI (r9.length + 1))), (4, .int (nI (k + 1))), (0, .ref (mo 0)), (1, .int (nI y)), (2, .int (nI x))] rfl ?_
  exact ih (kn5, sh5, dk5, upd sk5 r9.length (rcM 22 x9 y9), (rcM 22 x9 y9) :: r9, true :: tr9) (by dsimp only; exact ⟨hI.1, ⟨upd_s, skl_upd (Nat.le_refl _) hI.2.1.2.2⟩, ⟨(fun _ => rcM_b (by decide) (by decide) h01), hT9⟩, by simp only [List.length_cons]; omega, fun _ => hty2, by rw [← hI.2.2.2.2.2, evL_s hk, ho, evS_two (by decide) (by decide) (by omega) h01]⟩)

