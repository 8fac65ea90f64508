set_option maxRecDepth 100000 in
set_option maxHeartbeats 4000000 in
theorem c_X10_look {Z : GZ} {l : Launch} {mo pl : Nat → Nat} {N : Nat} {th sz ea tk dp lr dy ca ls mn : Int32} {kn : Bool} {hn va : Nat → Int64} {ha hh dz wh bg en od wi al tp kd fr me wo pc ht fs la kh kf kl sh dk sk : Nat → Int32} (hN : N ≤ 12) (ok : kn = true → LkOk N pc ht fs la sh dk)  : Ct Z l yX10_look cX10_look 5 none (rmK 4) [.ref (mo 0)] (wMd Z mo pl th sz ea tk dp lr dy ca kn tp kd fr me va wo pc ht fs la kh kf kl sh dk sk ++ wPl Z pl (nI N) ls mn hn ha hh dz wh bg en od wi al) (fun v w => ∃ sh2 dk2, v = none ∧ w = (wMd Z mo pl th sz ea tk dp lr dy ca true tp kd fr me va wo pc ht fs la kh kf kl sh2 dk2 sk ++ wPl Z pl (nI N) ls mn hn ha hh dz wh bg en od wi al) ∧ LkOk N pc ht fs la sh2 dk2) := by
  refine Ct.ofJ (own := RX10) (nm := "look") (lv0 := [(0, .ref (mo 0))]) (by decide) rfl rfl (Nat.le_of_ble_eq_true rfl) rfl (fun X hXl C E => ?_)
  subst hXl
  refine J_aload_n C iX10_look_0 rfl rfl ?_
  refine J_get (.int (b2i kn)) 0 C iX10_look_1 gf_X10_96 rfl rfl ?_
  refine J_ifeqb 8 C iX10_look_4 rfl (fun h4 => ?_) (fun h4 => ?_)
  · refine J_aload_n C iX10_look_8 rfl rfl ?_
    refine J_iconst 1 C iX10_look_9 rfl ?_
    refine J_put (wMd Z mo pl th sz ea tk dp lr dy ca true tp kd fr me va wo pc ht fs la kh kf kl sh dk sk ++ wPl Z pl (nI N) ls mn hn ha hh dz wh bg en od wi al) 0 C iX10_look_10 pf_X10_96 rfl rfl rfl (Nat.le_of_ble_eq_true rfl) rfl ?_
    refine J_iconst 0 C iX10_look_13 rfl ?_
    refine J_istore_n [(1, .int 0), (0, .ref (mo 0))] C iX10_look_14 rfl (by decide) rfl ?_
    refine J_lvm [(1, .int 0), (0, .ref (mo 0))] (by rfl) ?_
    refine J_forI (σ := (Nat → Int32) × (Nat → Int32)) (fun i q => [(1, .int (nI i)), (0, .ref (mo 0))]) (fun i q => (wMd Z mo pl th sz ea tk dp lr dy ca true tp kd fr me va wo pc ht fs la kh kf kl q.1 q.2 sk ++ wPl Z pl (nI N) ls mn hn ha hh dz wh bg en od wi al)) (fun i q => (∀ a b, a < i → b < N → q.1 (12 * a + b) = lkM pc ht fs la a b) ∧ ∀ a, a < i → q.2 a = orN (fun b => lkM pc ht fs la a b) N) N 0 (sh, dk) (by omega) ⟨fun _ _ h => absurd h (Nat.not_lt_zero _), fun _ h => absurd h (Nat.not_lt_zero _)⟩ ?_ ?_
    · rintro ⟨sh5, dk5⟩ hI
      dsimp only at hI ⊢
      refine J_iload_n C iX10_look_15 rfl rfl ?_
      refine J_aload_n C iX10_look_16 rfl rfl ?_
      refine J_get (.ref (pl 0)) 0 C iX10_look_17 gf_X10_20 rfl rfl ?_
      refine J_get (.int (nI N)) 17 C iX10_look_20 gf_X10_73 rfl rfl ?_
      refine J_icmpge 116 C iX10_look_23 rfl (fun h23 => ?_) (fun h23 => absurd (nI_le (Nat.le_refl N) (by omega)) h23)
      exact J_vret C E iX10_look_116 ⟨sh5, dk5, rfl, rfl, hI⟩
    · rintro i ⟨sh5, dk5⟩ hi0 hi hI ih
      dsimp only at hI ⊢
      refine J_iload_n C iX10_look_15 rfl rfl ?_
      refine J_aload_n C iX10_look_16 rfl rfl ?_
      refine J_get (.ref (pl 0)) 0 C iX10_look_17 gf_X10_20 rfl rfl ?_
      refine J_get (.int (nI N)) 17 C iX10_look_20 gf_X10_73 rfl rfl ?_
      refine J_icmpge 116 C iX10_look_23 rfl (fun h23 => absurd h23 (nI_ge hi (by omega))) (fun h23 => ?_)
      refine J_aload_n C iX10_look_26 rfl rfl ?_
      refine J_get (.ref (mo 15)) 0 C iX10_look_27 gf_X10_64 rfl rfl ?_
      refine J_iload_n C iX10_look_30 rfl rfl ?_
      refine J_iconst 0 C iX10_look_31 rfl ?_
      refine J_iast (wMd Z mo pl th sz ea tk dp lr dy ca true tp kd fr me va wo pc ht fs la kh kf kl sh5 (upd dk5 (nI i).toNatClampNeg 0) sk ++ wPl Z pl (nI N) ls mn hn ha hh dz wh bg en od wi al) 15 C iX10_look_32 rfl (vp_in_nI (n := i) (by omega) (by decide)) rfl ?_
      rw [nI_clamp (n := i) (by omega)]
      refine J_iconst 0 C iX10_look_33 rfl ?_
      refine J_istore_n [(2, .int 0), (1, .int (nI i)), (0, .ref (mo 0))] C iX10_look_34 rfl (by decide) rfl ?_
      refine J_lvm [(2, .int 0), (1, .int (nI i)), (0, .ref (mo 0))] (by rfl) ?_
      refine J_forI (σ := (Nat → Int32) × (Nat → Int32)) (fun k q => [(2, .int (nI k)), (1, .int (nI i)), (0, .ref (mo 0))]) (fun k q => (wMd Z mo pl th sz ea tk dp lr dy ca true tp kd fr me va wo pc ht fs la kh kf kl q.1 q.2 sk ++ wPl Z pl (nI N) ls mn hn ha hh dz wh bg en od wi al)) (fun k q => (∀ a b, a < i → b < N → q.1 (12 * a + b) = lkM pc ht fs la a b) ∧ (∀ b, b < k → q.1 (12 * i + b) = lkM pc ht fs la i b) ∧ (∀ a, a < i → q.2 a = orN (fun b => lkM pc ht fs la a b) N) ∧ q.2 i = orN (fun b => lkM pc ht fs la i b) k) N 0 (sh5, upd dk5 i 0) (by omega) ⟨hI.1, fun _ h => absurd h (Nat.not_lt_zero _), dk_upd hI.2, upd_s⟩ ?_ ?_
      · rintro ⟨sh6, dk6⟩ hJ
        dsimp only at hJ ⊢
        refine J_iload_n C iX10_look_35 rfl rfl ?_
        refine J_aload_n C iX10_look_36 rfl rfl ?_
        refine J_get (.ref (pl 0)) 0 C iX10_look_37 gf_X10_20 rfl rfl ?_
        refine J_get (.int (nI N)) 17 C iX10_look_40 gf_X10_73 rfl rfl ?_
        refine J_icmpge 110 C iX10_look_43 rfl (fun h43 => ?_) (fun h43 => absurd (nI_le (Nat.le_refl N) (by omega)) h43)
        refine J_iinc ((nI i) + 1) [(1, .int ((nI i) + 1)), (2, .int (nI N)), (0, .ref (mo 0))] C iX10_look_110 rfl rfl (by decide) rfl ?_
        rw [show (nI i) + 1 = nI (i + 1) from nI_add _ _]
        refine J_goto 15 C iX10_look_113 rfl ?_
        refine J_lvm [(1, .int (nI (i + 1))), (0, .ref (mo 0))] rfl ?_
        exact ih (sh6, dk6) ⟨lk_all hJ.1 hJ.2.1, dk_all hJ.2.2.1 hJ.2.2.2⟩
      · rintro k ⟨sh6, dk6⟩ hk0 hk hJ ihj
        dsimp only at hJ ⊢
        refine J_iload_n C iX10_look_35 rfl rfl ?_
        refine J_aload_n C iX10_look_36 rfl rfl ?_
        refine J_get (.ref (pl 0)) 0 C iX10_look_37 gf_X10_20 rfl rfl ?_
        refine J_get (.int (nI N)) 17 C iX10_look_40 gf_X10_73 rfl rfl ?_
        refine J_icmpge 110 C iX10_look_43 rfl (fun h43 => absurd h43 (nI_ge hk (by omega))) (fun h43 => ?_)
        refine J_iconst 0 C iX10_look_46 rfl ?_
        refine J_istore_n [(3, .int 0), (2, .int (nI k)), (1, .int (nI i)), (0, .ref (mo 0))] C iX10_look_47 rfl (by decide) rfl ?_
        refine J_bipush 6 C iX10_look_48 rfl ?_
        refine J_istore [(4, .int 6), (3, .int 0), (2, .int (nI k)), (1, .int (nI i)), (0, .ref (mo 0))] C iX10_look_50 (by decide) rfl ?_
        refine J_lvm [(3, .int 0), (4, .int 6), (2, .int (nI k)), (1, .int (nI i)), (0, .ref (mo 0))] (by rfl) ?_
        refine J_forI (σ := Int32) (fun g q => [(3, .int q), (4, .int (nI g)), (2, .int (nI k)), (1, .int (nI i)), (0, .ref (mo 0))]) (fun g q => (wMd Z mo pl th sz ea tk dp lr dy ca true tp kd fr me va wo pc ht fs la kh kf kl sh6 dk6 sk ++ wPl Z pl (nI N) ls mn hn ha hh dz wh bg en od wi al)) (fun g q => bsM (fun hr => snM pc ht fs la k i hr) (g - 6) = q) 19 6 (0) (by omega) rfl ?_ ?_
        · rintro bits7 hL
          refine J_iload C iX10_look_52 rfl ?_
          refine J_bipush 18 C iX10_look_54 rfl ?_
          refine J_icmpgt 82 C iX10_look_56 rfl (fun h56 => ?_) (fun h56 => absurd (by decide) h56)
          refine J_aload_n C iX10_look_82 rfl rfl ?_
          refine J_get (.ref (mo 14)) 0 C iX10_look_83 gf_X10_61 rfl rfl ?_
          refine J_bipush 12 C iX10_look_86 rfl ?_
          refine J_iload_n C iX10_look_88 rfl rfl ?_
          refine J_imul C iX10_look_89 ?_
          refine J_iload_n C iX10_look_90 rfl rfl ?_
          refine J_iadd C iX10_look_91 ?_
          refine J_iload_n C iX10_look_92 rfl rfl ?_
          refine J_iast (wMd Z mo pl th sz ea tk dp lr dy ca true tp kd fr me va wo pc ht fs la kh kf kl (upd sh6 ((12 * (nI i)) + (nI k)).toNatClampNeg bits7) dk6 sk ++ wPl Z pl (nI N) ls mn hn ha hh dz wh bg en od wi al) 14 C iX10_look_93 rfl (ji_in (by omega) (by omega)) rfl ?_
          refine J_aload_n C iX10_look_94 rfl rfl ?_
          refine J_get (.ref (mo 15)) 0 C iX10_look_95 gf_X10_64 rfl rfl ?_
          refine J_iload_n C iX10_look_98 rfl rfl ?_
          refine J_dup2 C iX10_look_99 rfl rfl ?_
          refine J_iald 15 C iX10_look_100 rfl (vp_in_nI (n := i) (by omega) (by decide)) ?_
          rw [nI_clamp (n := i) (by omega)]
          refine J_iload_n C iX10_look_101 rfl rfl ?_
          refine J_ior C iX10_look_102 ?_
          refine J_iast (wMd Z mo pl th sz ea tk dp lr dy ca true tp kd fr me va wo pc ht fs la kh kf kl (upd sh6 ((12 * (nI i)) + (nI k)).toNatClampNeg bits7) (upd dk6 (nI i).toNatClampNeg ((dk6 i) ||| bits7)) sk ++ wPl Z pl (nI N) ls mn hn ha hh dz wh bg en od wi al) 15 C iX10_look_103 rfl (vp_in_nI (n := i) (by omega) (by decide)) rfl ?_
          rw [nI_clamp (n := i) (by omega)]
          refine J_iinc ((nI k) + 1) [(2, .int ((nI k) + 1)), (3, .int bits7), (4, .int (nI 19)), (1, .int (nI i)), (0, .ref (mo 0))] C iX10_look_104 rfl rfl (by decide) rfl ?_
          rw [show (nI k) + 1 = nI (k + 1) from nI_add _ _]
          refine J_goto 35 C iX10_look_107 rfl ?_
          refine J_lvm [(2, .int (nI (k + 1))), (1, .int (nI i)), (0, .ref (mo 0))] rfl ?_
          rw [ji_nI (by omega) (by omega)]
          exact ihj (upd sh6 (12 * i + k) bits7, upd dk6 i (dk6 i ||| bits7)) ⟨lk_row (by omega) hk (by omega) hJ.1, lk_col hJ.2.1 hL.symm, dk_upd hJ.2.2.1, by dsimp only; rw [upd_s, hJ.2.2.2, orN, ← hL]; rfl⟩
        · rintro g bits7 hg0 hg hL ihl
          refine J_iload C iX10_look_52 rfl ?_
          refine J_bipush 18 C iX10_look_54 rfl ?_
          refine J_icmpgt 82 C iX10_look_56 rfl (fun h56 => absurd h56 (nI_nlt (a := 18) (b := g) (by omega) (by decide))) (fun h56 => ?_)
          refine J_iload_n C iX10_look_59 rfl rfl ?_
          refine J_aload_n C iX10_look_60 rfl rfl ?_
          refine J_iload_n C iX10_look_61 rfl rfl ?_
          refine J_iload_n C iX10_look_62 rfl rfl ?_
          refine J_iload C iX10_look_63 rfl ?_
          refine J_cV (As := [.int (nI k), .int (nI i), .int (nI g)]) (st := .int bits7 :: []) (rc2 := (rmK 4).cells) (rs2 := (rmK 4).slots) C iX10_look_65 lm_X10_100 yc_X10_shadesNow yv_X10_shadesNow (c_X10_shadesNow (i := k) (j := i) (by omega) (by omega)) (q0 := 0) rfl rfl rfl rfl (rmK_le (by omega) (by decide)) (Nat.le_of_ble_eq_true rfl) rfl rfl ?_
          rintro _ _ ⟨rfl, rfl⟩
          refine J_st (.int (b2i (snM pc ht fs la k i (nI g))) :: .int bits7 :: []) rfl ?_
          refine J_cSp (As := [.int (b2i (snM pc ht fs la k i (nI g)))]) (st := .int bits7 :: []) C iX10_look_68 lm_X10_103 yc_X10_one ys_X10_one (c_X10_one (b := snM pc ht fs la k i (nI g))) rfl (rmK_le (by omega) (by decide)) (Nat.le_of_ble_eq_true rfl) ⟨rfl, rfl⟩ ?_
          rintro _ rfl
          refine J_st (.int (b2i (snM pc ht fs la k i (nI g))) :: .int bits7 :: []) rfl ?_
          refine J_iload C iX10_look_71 rfl ?_
          refine J_ishl C iX10_look_73 ?_
          refine J_ior C iX10_look_74 ?_
          refine J_istore_n [(3, .int (bits7 ||| ((b2i (snM pc ht fs la k i (nI g))) <<< ((nI g) &&& 31)))), (4, .int (nI g)), (2, .int (nI k)), (1, .int (nI i)), (0, .ref (mo 0))] C iX10_look_75 rfl (by decide) rfl ?_
          refine J_iinc ((nI g) + 1) [(4, .int ((nI g) + 1)), (3, .int (bits7 ||| ((b2i (snM pc ht fs la k i (nI g))) <<< ((nI g) &&& 31)))), (2, .int (nI k)), (1, .int (nI i)), (0, .ref (mo 0))] C iX10_look_76 rfl rfl (by decide) rfl ?_
          rw [show (nI g) + 1 = nI (g + 1) from nI_add _ _]
          refine J_goto 52 C iX10_look_79 rfl ?_
          refine J_lvm [(3, .int (bits7 ||| ((b2i (snM pc ht fs la k i (nI g))) <<< ((nI g) &&& 31)))), (4, .int (nI (g + 1))), (2, .int (nI k)), (1, .int (nI i)), (0, .ref (mo 0))] rfl ?_
          exact ihl (bits7 ||| ((b2i (snM pc ht fs la k i (nI g))) <<< ((nI g) &&& 31))) (by rw [bsM_s hg0, hL])
  · exact J_vret C E iX10_look_7 ⟨sh, dk, rfl, by rw [h4], ok h4⟩

