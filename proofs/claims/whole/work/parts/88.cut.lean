set_option maxRecDepth 100000 in
set_option maxHeartbeats 4000000 in
theorem c_X10_cutIntoTokens {Z : GZ} {l : Launch} {mo pl : Nat → Nat} {th ea tk dp lr dy ca : Int32} {kn : Bool} {va : Nat → Int64} {tp kd fr me wo pc ht fs la kh kf kl sh dk sk : Nat → Int32} {tz : Nat} {tb : Nat → Int32} (htz : tz ≤ 2000) (htp : ∀ p, p < tz → tp p = sgN tz tb p)   : Ct Z l yX10_cutIntoTokens cX10_cutIntoTokens 4 none (rmK 8) [.ref (mo 0)] (wMd Z mo pl th (nI tz) ea tk dp lr dy ca kn tp kd fr me va wo pc ht fs la kh kf kl sh dk sk) (fun v w => ∃ kd2 fr2 me2 va2, v = none ∧ w = (wMd Z mo pl th (nI tz) ea tk dp lr dy ca kn tp kd2 fr2 me2 va2 wo pc ht fs la kh kf kl sh dk sk) ∧ CutI tz tb kd2 fr2 me2 va2 (tL tz tb + 1)) := by
  refine Ct.ofJ (own := RX10) (nm := "cutIntoTokens") (lv0 := [(0, .ref (mo 0))]) (by decide) rfl rfl (Nat.le_of_ble_eq_true rfl) rfl (fun X hXl C E => ?_)
  subst hXl
  refine J_iconst 0 C iX10_cutIntoTokens_0 rfl ?_
  refine J_istore_n [(1, .int 0), (0, .ref (mo 0))] C iX10_cutIntoTokens_1 rfl (by decide) rfl ?_
  refine J_iconst 0 C iX10_cutIntoTokens_2 rfl ?_
  refine J_istore_n [(2, .int 0), (1, .int 0), (0, .ref (mo 0))] C iX10_cutIntoTokens_3 rfl (by decide) rfl ?_
  refine J_lvm [(2, .int 0), (1, .int 0), (0, .ref (mo 0))] (by rfl) ?_
  refine J_forI (σ := (Nat → Int32) × (Nat → Int32) × (Nat → Int32) × (Nat → Int64)) (fun k q => [(2, .int (nI k)), (1, .int (nI (pN tz tb k))), (0, .ref (mo 0))]) (fun k q => (wMd Z mo pl th (nI tz) ea tk dp lr dy ca kn tp q.1 q.2.1 q.2.2.1 q.2.2.2 wo pc ht fs la kh kf kl sh dk sk)) (fun k q => k ≤ tL tz tb ∧ CutI tz tb q.1 q.2.1 q.2.2.1 q.2.2.2 k) 401 0 (kd, fr, me, va) (by omega) ⟨Nat.zero_le _, fun i hi => absurd hi (Nat.not_lt_zero _)⟩ ?_ ?_
  · rintro ⟨kd5, fr5, me5, va5⟩ hI
    dsimp only at hI ⊢
    refine J_iload_n C iX10_cutIntoTokens_4 rfl rfl ?_
    refine J_sipush 400 C iX10_cutIntoTokens_5 rfl ?_
    refine J_icmpgt 127 C iX10_cutIntoTokens_8 rfl (fun h8 => ?_) (fun h8 => absurd (by decide) h8)
    exact J_vret C E iX10_cutIntoTokens_127 (absurd hI.1 (by have := (tL_spec tz tb).1; omega))
  · rintro k ⟨kd5, fr5, me5, va5⟩ hk0 hk hI ih
    dsimp only at hI ⊢
    have hpn := pN_le tz tb k
    have hbl := bl_le2 (m := tz) (tb := tb) (s := pN tz tb k)
    have hsn : stN tz tb k ≤ 2000 := bl_le hpn
    have hL4 := (tL_spec tz tb).1
    have hep := endP_le' (m := tz) (tb := tb) (s := stN tz tb k) hsn
    refine J_iload_n C iX10_cutIntoTokens_4 rfl rfl ?_
    refine J_sipush 400 C iX10_cutIntoTokens_5 rfl ?_
    refine J_icmpgt 127 C iX10_cutIntoTokens_8 rfl (fun h8 => absurd h8 (nI_nlt (a := 400) (b := k) (by omega) (by decide))) (fun h8 => ?_)
    refine J_lvm [(1, .int (nI (pN tz tb k))), (2, .int (nI k)), (0, .ref (mo 0))] rfl ?_
    refine J_for (fun j => [(1, .int (nI (pN tz tb k + j))), (2, .int (nI k)), (0, .ref (mo 0))]) (fun j => (wMd Z mo pl th (nI tz) ea tk dp lr dy ca kn tp kd5 fr5 me5 va5 wo pc ht fs la kh kf kl sh dk sk)) (blL tz tb (pN tz tb k)) 0 (by omega) ?_ (fun j hj0 hj ihj => ?_)
    · refine J_aload_n C iX10_cutIntoTokens_11 rfl rfl ?_
      refine J_iload_n C iX10_cutIntoTokens_12 rfl rfl ?_
      refine J_cV (As := [.int (nI (pN tz tb k + (blL tz tb (pN tz tb k))))]) (st := []) (rc2 := (rmK 8).cells) (rs2 := (rmK 8).slots) C iX10_cutIntoTokens_13 lm_X10_220 yc_X10_byteOf yv_X10_byteOf (c_X10_byteOf htz htp (p := (pN tz tb k + (blL tz tb (pN tz tb k)))) (by omega)) (q0 := 0) rfl rfl rfl rfl (rmK_le (by omega) (by decide)) (Nat.le_of_ble_eq_true rfl) rfl rfl ?_
      rintro _ _ ⟨rfl, rfl⟩
      refine J_st (.int (sgN tz tb (pN tz tb k + (blL tz tb (pN tz tb k)))) :: []) rfl ?_
      refine J_bipush 32 C iX10_cutIntoTokens_16 rfl ?_
      refine J_icmpeq 31 C iX10_cutIntoTokens_18 rfl (fun h18 => absurd h18 (bl_f1 (bl_out htz hpn))) (fun h18 => ?_)
      refine J_aload_n C iX10_cutIntoTokens_21 rfl rfl ?_
      refine J_iload_n C iX10_cutIntoTokens_22 rfl rfl ?_
      refine J_cV (As := [.int (nI (pN tz tb k + (blL tz tb (pN tz tb k))))]) (st := []) (rc2 := (rmK 8).cells) (rs2 := (rmK 8).slots) C iX10_cutIntoTokens_23 lm_X10_220 yc_X10_byteOf yv_X10_byteOf (c_X10_byteOf htz htp (p := (pN tz tb k + (blL tz tb (pN tz tb k)))) (by omega)) (q0 := 0) rfl rfl rfl rfl (rmK_le (by omega) (by decide)) (Nat.le_of_ble_eq_true rfl) rfl rfl ?_
      rintro _ _ ⟨rfl, rfl⟩
      refine J_st (.int (sgN tz tb (pN tz tb k + (blL tz tb (pN tz tb k)))) :: []) rfl ?_
      refine J_bipush 10 C iX10_cutIntoTokens_26 rfl ?_
      refine J_icmpne 37 C iX10_cutIntoTokens_28 rfl (fun h28 => ?_) (fun h28 => absurd h28 (bl_f2 (bl_out htz hpn)))
      refine J_lvm [(1, .int (nI (stN tz tb k))), (2, .int (nI k)), (0, .ref (mo 0))] (by rfl) ?_
      refine J_aload_n C iX10_cutIntoTokens_37 rfl rfl ?_
      refine J_iload_n C iX10_cutIntoTokens_38 rfl rfl ?_
      refine J_cV (As := [.int (nI (stN tz tb k))]) (st := []) (rc2 := (rmK 8).cells) (rs2 := (rmK 8).slots) C iX10_cutIntoTokens_39 lm_X10_257 yc_X10_endOf yv_X10_endOf (c_X10_endOf htz htp (s := stN tz tb k) (by omega)) (q0 := 0) rfl rfl rfl rfl (rmK_le (by omega) (by decide)) (Nat.le_of_ble_eq_true rfl) rfl rfl ?_
      rintro _ _ ⟨rfl, rfl⟩
      refine J_st (.int (nI (endP tz tb (stN tz tb k))) :: []) rfl ?_
      refine J_istore_n [(3, .int (nI (endP tz tb (stN tz tb k)))), (1, .int (nI (stN tz tb k))), (2, .int (nI k)), (0, .ref (mo 0))] C iX10_cutIntoTokens_42 rfl (by decide) rfl ?_
      refine J_aload_n C iX10_cutIntoTokens_43 rfl rfl ?_
      refine J_get (.ref (mo 3)) 0 C iX10_cutIntoTokens_44 gf_X10_27 rfl rfl ?_
      refine J_iload_n C iX10_cutIntoTokens_47 rfl rfl ?_
      refine J_iload_n C iX10_cutIntoTokens_48 rfl rfl ?_
      refine J_iast (wMd Z mo pl th (nI tz) ea tk dp lr dy ca kn tp kd5 (upd fr5 (nI k).toNatClampNeg (nI (stN tz tb k))) me5 va5 wo pc ht fs la kh kf kl sh dk sk) 3 C iX10_cutIntoTokens_49 rfl (vp_in_nI (n := k) (by omega) (by decide)) rfl ?_
      rw [nI_clamp (n := k) (by omega)]
      refine J_aload_n C iX10_cutIntoTokens_50 rfl rfl ?_
      refine J_get (.ref (mo 4)) 0 C iX10_cutIntoTokens_51 gf_X10_30 rfl rfl ?_
      refine J_iload_n C iX10_cutIntoTokens_54 rfl rfl ?_
      refine J_iconst 0 C iX10_cutIntoTokens_55 rfl ?_
      refine J_iast (wMd Z mo pl th (nI tz) ea tk dp lr dy ca kn tp kd5 (upd fr5 k (nI (stN tz tb k))) (upd me5 (nI k).toNatClampNeg 0) va5 wo pc ht fs la kh kf kl sh dk sk) 4 C iX10_cutIntoTokens_56 rfl (vp_in_nI (n := k) (by omega) (by decide)) rfl ?_
      rw [nI_clamp (n := k) (by omega)]
      refine J_aload_n C iX10_cutIntoTokens_57 rfl rfl ?_
      refine J_get (.ref (mo 2)) 0 C iX10_cutIntoTokens_58 gf_X10_24 rfl rfl ?_
      refine J_iload_n C iX10_cutIntoTokens_61 rfl rfl ?_
      refine J_aload_n C iX10_cutIntoTokens_62 rfl rfl ?_
      refine J_iload_n C iX10_cutIntoTokens_63 rfl rfl ?_
      refine J_iload_n C iX10_cutIntoTokens_64 rfl rfl ?_
      refine J_iload_n C iX10_cutIntoTokens_65 rfl rfl ?_
      refine J_cV (As := [.int (nI k), .int (nI (stN tz tb k)), .int (nI (endP tz tb (stN tz tb k)))]) (st := .int (nI k) :: .ref (mo 2) :: []) (rc2 := (rmK 8).cells) (rs2 := (rmK 8).slots) C iX10_cutIntoTokens_66 lm_X10_260 yc_X10_kindOf yv_X10_kindOf (c_X10_kindOf htz htp (x := k) (s := stN tz tb k) (by omega) (by omega)) (q0 := 0) rfl rfl rfl rfl (rmK_le (by omega) (by decide)) (Nat.le_of_ble_eq_true rfl) rfl rfl ?_
      rintro _ _ ⟨va6, rfl, rfl, hv2, hv3⟩
      refine J_st (.int (km (tkM tz tb (stN tz tb k))) :: .int (nI k) :: .ref (mo 2) :: []) rfl ?_
      refine J_iast (wMd Z mo pl th (nI tz) ea tk dp lr dy ca kn tp (upd kd5 (nI k).toNatClampNeg (km (tkM tz tb (stN tz tb k)))) (upd fr5 k (nI (stN tz tb k))) (upd me5 k 0) va6 wo pc ht fs la kh kf kl sh dk sk) 2 C iX10_cutIntoTokens_69 rfl (vp_in_nI (n := k) (by omega) (by decide)) rfl ?_
      rw [nI_clamp (n := k) (by omega)]
      refine J_iload_n C iX10_cutIntoTokens_70 rfl rfl ?_
      refine J_sipush 400 C iX10_cutIntoTokens_71 rfl ?_
      by_cases hs74 : k = 400
      · refine J_icmpne 96 C iX10_cutIntoTokens_74 rfl (fun h74 => absurd (show nI k = 400 from congrArg nI hs74) h74) (fun h74 => ?_)
        refine J_aload_n C iX10_cutIntoTokens_77 rfl rfl ?_
        refine J_get (.ref (mo 2)) 0 C iX10_cutIntoTokens_78 gf_X10_24 rfl rfl ?_
        refine J_iload_n C iX10_cutIntoTokens_81 rfl rfl ?_
        refine J_iald 2 C iX10_cutIntoTokens_82 rfl (vp_in_nI (n := k) (by omega) (by decide)) ?_
        rw [nI_clamp (n := k) (by omega)]
        rw [upd_s]
        refine J_bipush 33 C iX10_cutIntoTokens_83 rfl ?_
        refine J_icmpeq 96 C iX10_cutIntoTokens_85 rfl (fun h85 => ?_) (fun h85 => ?_)
        · refine J_aload_n C iX10_cutIntoTokens_96 rfl rfl ?_
          refine J_get (.ref (mo 2)) 0 C iX10_cutIntoTokens_97 gf_X10_24 rfl rfl ?_
          refine J_iload_n C iX10_cutIntoTokens_100 rfl rfl ?_
          refine J_iald 2 C iX10_cutIntoTokens_101 rfl (vp_in_nI (n := k) (by omega) (by decide)) ?_
          rw [nI_clamp (n := k) (by omega)]
          rw [upd_s]
          refine J_bipush 32 C iX10_cutIntoTokens_102 rfl ?_
          refine J_icmpeq 118 C iX10_cutIntoTokens_104 rfl (fun h104 => absurd h104 (fun z => absurd (h85.symm.trans z) (by decide))) (fun h104 => ?_)
          refine J_aload_n C iX10_cutIntoTokens_107 rfl rfl ?_
          refine J_get (.ref (mo 2)) 0 C iX10_cutIntoTokens_108 gf_X10_24 rfl rfl ?_
          refine J_iload_n C iX10_cutIntoTokens_111 rfl rfl ?_
          refine J_iald 2 C iX10_cutIntoTokens_112 rfl (vp_in_nI (n := k) (by omega) (by decide)) ?_
          rw [nI_clamp (n := k) (by omega)]
          rw [upd_s]
          refine J_bipush 33 C iX10_cutIntoTokens_113 rfl ?_
          refine J_icmpne 119 C iX10_cutIntoTokens_115 rfl (fun h115 => absurd h85 h115) (fun h115 => ?_)
          exact J_vret C E iX10_cutIntoTokens_118 (by have e41 : tkT tz tb k = 41 := tkT_41 ((kdT (k := 41) rfl (tkM_lt _ _ _) (by decide) rfl).mp h85); rw [← cut_fin hI.1 (Or.inl e41)]; exact ⟨upd kd5 k (km (tkM tz tb (stN tz tb k))), upd fr5 k (nI (stN tz tb k)), upd me5 k 0, va6, rfl, rfl, hI.2.step (by rw [e41]; exact h85) hv2 hv3 (fun j hj => upd_n hj) upd_s⟩)
        · refine J_aload_n C iX10_cutIntoTokens_88 rfl rfl ?_
          refine J_get (.ref (mo 2)) 0 C iX10_cutIntoTokens_89 gf_X10_24 rfl rfl ?_
          refine J_iload_n C iX10_cutIntoTokens_92 rfl rfl ?_
          refine J_bipush 32 C iX10_cutIntoTokens_93 rfl ?_
          refine J_iast (wMd Z mo pl th (nI tz) ea tk dp lr dy ca kn tp (upd (upd kd5 k (km (tkM tz tb (stN tz tb k)))) (nI k).toNatClampNeg 32) (upd fr5 k (nI (stN tz tb k))) (upd me5 k 0) va6 wo pc ht fs la kh kf kl sh dk sk) 2 C iX10_cutIntoTokens_95 rfl (vp_in_nI (n := k) (by omega) (by decide)) rfl ?_
          rw [nI_clamp (n := k) (by omega)]
          refine J_aload_n C iX10_cutIntoTokens_96 rfl rfl ?_
          refine J_get (.ref (mo 2)) 0 C iX10_cutIntoTokens_97 gf_X10_24 rfl rfl ?_
          refine J_iload_n C iX10_cutIntoTokens_100 rfl rfl ?_
          refine J_iald 2 C iX10_cutIntoTokens_101 rfl (vp_in_nI (n := k) (by omega) (by decide)) ?_
          rw [nI_clamp (n := k) (by omega)]
          rw [upd_s]
          refine J_bipush 32 C iX10_cutIntoTokens_102 rfl ?_
          refine J_icmpeq 118 C iX10_cutIntoTokens_104 rfl (fun h104 => ?_) (fun h104 => absurd (by decide) h104)
          exact J_vret C E iX10_cutIntoTokens_118 (by have e42 : tkT tz tb k = 42 := (by rw [hs74]; exact tkT_400 (by rw [← hs74]; exact fun z => h85 ((kdT (k := 41) rfl (tkM_lt _ _ _) (by decide) rfl).mpr z))); rw [← cut_fin hI.1 (Or.inr e42)]; exact ⟨upd (upd kd5 k (km (tkM tz tb (stN tz tb k)))) k 32, upd fr5 k (nI (stN tz tb k)), upd me5 k 0, va6, rfl, rfl, hI.2.step (by rw [e42]; rfl) hv2 hv3 (fun j hj => by rw [upd_n hj, upd_n hj]) upd_s⟩)
      · refine J_icmpne 96 C iX10_cutIntoTokens_74 rfl (fun h74 => ?_) (fun h74 => absurd h74 (fun e => hs74 ((nI_eq (a := k) (b := 400) (by omega) (by omega)).mp e)))
        refine J_aload_n C iX10_cutIntoTokens_96 rfl rfl ?_
        refine J_get (.ref (mo 2)) 0 C iX10_cutIntoTokens_97 gf_X10_24 rfl rfl ?_
        refine J_iload_n C iX10_cutIntoTokens_100 rfl rfl ?_
        refine J_iald 2 C iX10_cutIntoTokens_101 rfl (vp_in_nI (n := k) (by omega) (by decide)) ?_
        rw [nI_clamp (n := k) (by omega)]
        rw [upd_s]
        refine J_bipush 32 C iX10_cutIntoTokens_102 rfl ?_
        refine J_icmpeq 118 C iX10_cutIntoTokens_104 rfl (fun h104 => ?_) (fun h104 => ?_)
        · exact J_vret C E iX10_cutIntoTokens_118 (by rw [← cut_fin hI.1 (Or.inr ((tkT_M hs74).trans ((kdT (k := 42) rfl (tkM_lt _ _ _) (by decide) rfl).mp h104)))]; exact ⟨upd kd5 k (km (tkM tz tb (stN tz tb k))), upd fr5 k (nI (stN tz tb k)), upd me5 k 0, va6, rfl, rfl, hI.2.step (by rw [tkT_M hs74]) hv2 hv3 (fun j hj => upd_n hj) upd_s⟩)
        · refine J_aload_n C iX10_cutIntoTokens_107 rfl rfl ?_
          refine J_get (.ref (mo 2)) 0 C iX10_cutIntoTokens_108 gf_X10_24 rfl rfl ?_
          refine J_iload_n C iX10_cutIntoTokens_111 rfl rfl ?_
          refine J_iald 2 C iX10_cutIntoTokens_112 rfl (vp_in_nI (n := k) (by omega) (by decide)) ?_
          rw [nI_clamp (n := k) (by omega)]
          rw [upd_s]
          refine J_bipush 33 C iX10_cutIntoTokens_113 rfl ?_
          refine J_icmpne 119 C iX10_cutIntoTokens_115 rfl (fun h115 => ?_) (fun h115 => ?_)
          · refine J_iload_n C iX10_cutIntoTokens_119 rfl rfl ?_
            refine J_istore_n [(1, .int (nI (endP tz tb (stN tz tb k)))), (3, .int (nI (endP tz tb (stN tz tb k)))), (2, .int (nI k)), (0, .ref (mo 0))] C iX10_cutIntoTokens_120 rfl (by decide) rfl ?_
            refine J_iinc ((nI k) + 1) [(2, .int ((nI k) + 1)), (1, .int (nI (endP tz tb (stN tz tb k)))), (3, .int (nI (endP tz tb (stN tz tb k)))), (0, .ref (mo 0))] C iX10_cutIntoTokens_121 rfl rfl (by decide) rfl ?_
            rw [show (nI k) + 1 = nI (k + 1) from nI_add _ _]
            refine J_goto 4 C iX10_cutIntoTokens_124 rfl ?_
            refine J_lvm [(2, .int (nI (k + 1))), (1, .int (nI (endP tz tb (stN tz tb k)))), (0, .ref (mo 0))] rfl ?_
            have hn42 : tkT tz tb k ≠ 42 := by rw [tkT_M hs74]; exact fun z => h104 (by rw [z]; rfl)
            have hn41 : tkT tz tb k ≠ 41 := by rw [tkT_M hs74]; exact fun z => h115 (by rw [z]; rfl)
            rw [← (cut_go htz hI.1 hn41 hn42).2]
            exact ih (upd kd5 k (km (tkM tz tb (stN tz tb k))), upd fr5 k (nI (stN tz tb k)), upd me5 k 0, va6) ⟨(cut_go htz hI.1 hn41 hn42).1, hI.2.step (x := km (tkM tz tb (stN tz tb k))) (by rw [tkT_M hs74]) hv2 hv3 (fun j hj => upd_n hj) upd_s⟩
          · exact J_vret C E iX10_cutIntoTokens_118 (by rw [← cut_fin hI.1 (Or.inl (tkT_41 ((kdT (k := 41) rfl (tkM_lt _ _ _) (by decide) rfl).mp h115)))]; exact ⟨upd kd5 k (km (tkM tz tb (stN tz tb k))), upd fr5 k (nI (stN tz tb k)), upd me5 k 0, va6, rfl, rfl, hI.2.step (by rw [tkT_M hs74]) hv2 hv3 (fun j hj => upd_n hj) upd_s⟩)
    · refine J_aload_n C iX10_cutIntoTokens_11 rfl rfl ?_
      refine J_iload_n C iX10_cutIntoTokens_12 rfl rfl ?_
      refine J_cV (As := [.int (nI (pN tz tb k + j))]) (st := []) (rc2 := (rmK 8).cells) (rs2 := (rmK 8).slots) C iX10_cutIntoTokens_13 lm_X10_220 yc_X10_byteOf yv_X10_byteOf (c_X10_byteOf htz htp (p := (pN tz tb k + j)) (by omega)) (q0 := 0) rfl rfl rfl rfl (rmK_le (by omega) (by decide)) (Nat.le_of_ble_eq_true rfl) rfl rfl ?_
      rintro _ _ ⟨rfl, rfl⟩
      refine J_st (.int (sgN tz tb (pN tz tb k + j)) :: []) rfl ?_
      refine J_bipush 32 C iX10_cutIntoTokens_16 rfl ?_
      refine J_icmpeq 31 C iX10_cutIntoTokens_18 rfl (fun h18 => ?_) (fun h18 => ?_)
      · refine J_iinc ((nI (pN tz tb k + j)) + 1) [(1, .int ((nI (pN tz tb k + j)) + 1)), (2, .int (nI k)), (0, .ref (mo 0))] C iX10_cutIntoTokens_31 rfl rfl (by decide) rfl ?_
        rw [show (nI (pN tz tb k + j)) + 1 = nI ((pN tz tb k + j) + 1) from nI_add _ _]
        refine J_goto 11 C iX10_cutIntoTokens_34 rfl ?_
        refine J_lvm [(1, .int (nI ((pN tz tb k + j) + 1))), (2, .int (nI k)), (0, .ref (mo 0))] rfl ?_
        exact ihj
      · refine J_aload_n C iX10_cutIntoTokens_21 rfl rfl ?_
        refine J_iload_n C iX10_cutIntoTokens_22 rfl rfl ?_
        refine J_cV (As := [.int (nI (pN tz tb k + j))]) (st := []) (rc2 := (rmK 8).cells) (rs2 := (rmK 8).slots) C iX10_cutIntoTokens_23 lm_X10_220 yc_X10_byteOf yv_X10_byteOf (c_X10_byteOf htz htp (p := (pN tz tb k + j)) (by omega)) (q0 := 0) rfl rfl rfl rfl (rmK_le (by omega) (by decide)) (Nat.le_of_ble_eq_true rfl) rfl rfl ?_
        rintro _ _ ⟨rfl, rfl⟩
        refine J_st (.int (sgN tz tb (pN tz tb k + j)) :: []) rfl ?_
        refine J_bipush 10 C iX10_cutIntoTokens_26 rfl ?_
        refine J_icmpne 37 C iX10_cutIntoTokens_28 rfl (fun h28 => absurd (Classical.byContradiction (fun e => bl_no (bl_in hj) h18 e)) h28) (fun h28 => ?_)
        refine J_iinc ((nI (pN tz tb k + j)) + 1) [(1, .int ((nI (pN tz tb k + j)) + 1)), (2, .int (nI k)), (0, .ref (mo 0))] C iX10_cutIntoTokens_31 rfl rfl (by decide) rfl ?_
        rw [show (nI (pN tz tb k + j)) + 1 = nI ((pN tz tb k + j) + 1) from nI_add _ _]
        refine J_goto 11 C iX10_cutIntoTokens_34 rfl ?_
        refine J_lvm [(1, .int (nI ((pN tz tb k + j) + 1))), (2, .int (nI k)), (0, .ref (mo 0))] rfl ?_
        exact ihj

