theorem p2S_pos {fr : Nat → Int32} {va : Nat → Int64} {me : Nat → Int32} {k m u : Nat} {a er b : Int32} {nm : Nat → Int64} {bP bH wh wo  : Nat → Int32} {r : Nat × (Nat → Int64) × (Nat → Int32) × (Nat → Int32) × Nat × (Nat → Int32) × (Nat → Int32)} (h : p2S fr va me k (0, a, m, nm, bP, bH, u, wh, wo) = (er, b, r)) (hne : er ≠ 0) : 0 < er := by
  unfold p2S at h
  dsimp only at h
  rw [if_pos rfl] at h
  repeat' split at h
  all_goals first
    | exact absurd (Prod.mk.inj h).1.symm hne
    | (have := (Prod.mk.inj h).1; subst this; decide)
set_option maxRecDepth 100000 in
set_option maxHeartbeats 4000000 in
theorem c_X10_readP {Z : GZ} {l : Launch} {mo pl pn : Nat → Nat} {th ea tk dp lr dy ca : Int32} {kn : Bool} {hn va vf0 : Nat → Int64} {ha hh dz wh bg en od wi al sf0 tp kd fr me wo pc ht fs la kh kf kl sh dk sk : Nat → Int32} {tz : Nat} {tb o g j bP bH l0 l1 l2 l3 l4 l5 : Nat → Int32} {nm : Nat → Int64} (htz : tz ≤ 2000) (htp : ∀ p, p < tz → tp p = sgN tz tb p)  : Ct Z l yX10_read cX10_read 4 (some .int) (rmK 47) [.ref (mo 0), .ref (pn 0)] (wMd Z mo pl th (nI tz) ea tk dp lr dy ca kn tp kd fr me va wo pc ht fs la kh kf kl sh dk sk ++ wPl Z pn 0 0 0 hn ha hh dz wh bg en od wi al) (fun v w => ∃ e2 ea2 tk2 dp2 lr2 kd2 fr2 me2 va2 wo2 hs2 ls2 mn2 hn2 ha2 hh2 dz2 wh2 bg2 en2 od2 wi2 al2, v = some (.int e2) ∧ w = (wMd Z mo pl th (nI tz) ea2 tk2 dp2 lr2 dy ca kn tp kd2 fr2 me2 va2 wo2 pc ht fs la kh kf kl sh dk sk ++ wPl Z pn hs2 ls2 mn2 hn2 ha2 hh2 dz2 wh2 bg2 en2 od2 wi2 al2) ∧ ReadK (readR (tkT tz tb) (sfF tz tb sf0 (tL tz tb + 1)) (vfF tz tb vf0 (tL tz tb + 1)) 400 ((0, false, 0, -1, 0, o, g, j), 0, nm, bP, bH, 0, l0, l1, l2, l3, l4, l5)) e2 ea ea2 hs2 ls2 mn2 hn2 ha2 hh2 dz2 wh2 bg2 en2 od2 wi2 al2 ∧ (e2 = 0 ∨ 0 < e2)) := by
  refine Ct.ofJ (own := RX10) (nm := "read") (lv0 := [(0, .ref (mo 0)), (1, .ref (pn 0))]) (by decide) rfl rfl (Nat.le_of_ble_eq_true rfl) rfl (fun X hXl C E => ?_)
  subst hXl
  refine J_aload_n C iX10_read_0 rfl rfl ?_
  refine J_cVb (As := []) (st := []) (rc2 := (rmK 47).cells) (rs2 := (rmK 47).slots) C iX10_read_1 lm_X10_367 yc_X10_cutIntoTokens yv_X10_cutIntoTokens (c_X10_cutIntoTokens htz htp) (q0 := 0) rfl rfl rfl [] (wPl Z pn 0 0 0 hn ha hh dz wh bg en od wi al) rfl rfl (rmK_le (by omega) (by decide)) (Nat.le_of_ble_eq_true rfl) rfl rfl ?_
  rintro _ _ ⟨kd6, fr6, me6, va6, rfl, rfl, hC⟩
  · refine J_st ([]) rfl ?_
    refine J_ws (wMd Z mo pl th (nI tz) ea tk dp lr dy ca kn tp kd6 fr6 me6 va6 wo pc ht fs la kh kf kl sh dk sk ++ wPl Z pn 0 0 0 hn ha hh dz wh bg en od wi al) (by simp only [List.append_assoc, List.append_nil, List.nil_append]) ?_
    have hkd : ∀ i, i ≤ tL tz tb → kd6 i = km (tkT tz tb i) := fun i hi => (hC i (by omega)).1
    have hfr : ∀ i, i ≤ tL tz tb → fr6 i = (sfF tz tb sf0 (tL tz tb + 1)) i := fun i hi => by rw [(hC i (by omega)).2.1, sfF_at (by omega)]
    have hva : ∀ i, i ≤ tL tz tb → tkT tz tb i = 39 ∨ tkT tz tb i = 40 → va6 i = (vfF tz tb vf0 (tL tz tb + 1)) i := fun i hi q => by rw [(hC i (by omega)).2.2.2 q, vfF_at (by omega)]
    have hme : ∀ i, i ≤ tL tz tb → me6 i = 0 := fun i hi => (hC i (by omega)).2.2.1
    have hL4 := (tL_spec tz tb).1
    refine J_aload_n C iX10_read_4 rfl rfl ?_
    refine J_iconst 0 C iX10_read_5 rfl ?_
    refine J_put (wMd Z mo pl th (nI tz) ea 0 dp lr dy ca kn tp kd6 fr6 me6 va6 wo pc ht fs la kh kf kl sh dk sk ++ wPl Z pn 0 0 0 hn ha hh dz wh bg en od wi al) 0 C iX10_read_6 pf_X10_263 rfl rfl rfl (Nat.le_of_ble_eq_true rfl) rfl ?_
    refine J_aload_n C iX10_read_9 rfl rfl ?_
    refine J_iconst 0 C iX10_read_10 rfl ?_
    refine J_put (wMd Z mo pl th (nI tz) ea 0 0 lr dy ca kn tp kd6 fr6 me6 va6 wo pc ht fs la kh kf kl sh dk sk ++ wPl Z pn 0 0 0 hn ha hh dz wh bg en od wi al) 0 C iX10_read_11 pf_X10_269 rfl rfl rfl (Nat.le_of_ble_eq_true rfl) rfl ?_
    refine J_aload_n C iX10_read_14 rfl rfl ?_
    refine J_iconst 0 C iX10_read_15 rfl ?_
    refine J_put (wMd Z mo pl th (nI tz) ea 0 0 0 dy ca kn tp kd6 fr6 me6 va6 wo pc ht fs la kh kf kl sh dk sk ++ wPl Z pn 0 0 0 hn ha hh dz wh bg en od wi al) 0 C iX10_read_16 pf_X10_322 rfl rfl rfl (Nat.le_of_ble_eq_true rfl) rfl ?_
    refine J_ws (wMd Z mo pl th (nI tz) ea (nI 0) (nI 0) (nI 0) dy ca kn tp kd6 fr6 me6 va6 wo pc ht fs la kh kf kl sh dk sk ++ wPl Z pn 0 0 (nI 0) hn ha hh dz wh bg en od wi al) (by rfl) ?_
    refine J_aload_n C iX10_read_19 rfl rfl ?_
    refine J_aload_n C iX10_read_20 rfl rfl ?_
    refine J_cV (As := [.ref (pn 0)]) (st := []) (rc2 := (rmK 47).cells) (rs2 := (rmK 47).slots) C iX10_read_21 lm_X10_370 yc_X10_isBook yv_X10_isBook (c_X10_isBook (Lt := tL tz tb) (tq := (tkT tz tb)) (sq := (sfF tz tb sf0 (tL tz tb + 1))) (vq := (vfF tz tb vf0 (tL tz tb + 1))) (nm := nm) (o := o) (g := g) (j := j) (a0 := -1) (bP := bP) (bH := bH) (l0 := l0) (l1 := l1) (l2 := l2) (l3 := l3) (l4 := l4) (l5 := l5) (ha9 := ha) (hh9 := hh) (wh9 := wh) (wo9 := wo) (hn9 := hn) hL4 hkd (tkT_lt tz tb) tkT_end hva hme) (q0 := 0) rfl rfl rfl rfl (rmK_le (by omega) (by decide)) (Nat.le_of_ble_eq_true rfl) rfl rfl ?_
    rintro _ _ (⟨i8, u8, s8, me8, od8, wi8, al8, dz8, bg8, en8, e7, a7, o7, g7, j7, m7, nm7, bP7, bH7, uc7, l0x7, l1x7, l2x7, l3x7, l4x7, l5x7, rfl, rfl, t41, hi8, hs8, hR, hMk, hB⟩ | ⟨i8, dp8, mn8, me8, od8, wi8, al8, lr8, dz8, bg8, en8, rfl, rfl, hi8, hBk⟩)
    · refine J_st (.int (b2i true) :: []) rfl ?_
      refine J_ifneb 42 C iX10_read_24 rfl (fun h24 => ?_) (fun h24 => absurd (h24.symm.trans rfl) (by decide))
      refine J_iconst 0 C iX10_read_42 rfl ?_
      refine J_istore_n [(2, .int 0), (0, .ref (mo 0)), (1, .ref (pn 0))] C iX10_read_43 rfl (by decide) rfl ?_
      refine J_lvm [(2, .int 0), (0, .ref (mo 0)), (1, .ref (pn 0))] (by rfl) ?_
      refine J_ws (wMd Z mo pl th (nI tz) ea (nI i8) (nI 0) (nI u8) dy ca kn tp kd6 fr6 me8 va6 wo pc ht fs la kh kf kl sh dk sk ++ wPl Z pn (nI 0) (nI 0) (nI s8) hn ha hh dz8 wh bg8 en8 od8 wi8 al8) rfl ?_
      refine J_forI (σ := Nat × (Nat → Int64) × (Nat → Int32) × (Nat → Int32) × Nat × (Nat → Int32) × (Nat → Int32)) (fun k q => [(2, .int (nI k)), (0, .ref (mo 0)), (1, .ref (pn 0))]) (fun k q => (wMd Z mo pl th (nI tz) ea (nI i8) (nI 0) (nI u8) dy ca kn tp kd6 fr6 me8 va6 q.2.2.2.2.2.2 pc ht fs la kh kf kl sh dk sk ++ wPl Z pn (nI q.1) (nI q.2.2.2.2.1) (nI s8) q.2.1 q.2.2.1 q.2.2.2.1 dz8 q.2.2.2.2.2.1 bg8 en8 od8 wi8 al8)) (fun k q => p2N (sfF tz tb sf0 (tL tz tb + 1)) (vfF tz tb vf0 (tL tz tb + 1)) me8 0 (0, -1, 0, hn, ha, hh, 0, wh, wo) k = (0, -1, q.1, q.2.1, q.2.2.1, q.2.2.2.1, q.2.2.2.2.1, q.2.2.2.2.2.1, q.2.2.2.2.2.2)) i8 0 (0, hn, ha, hh, 0, wh, wo) (by omega) rfl ?_ ?_
      · rintro ⟨m5, hn5, ha5, hh5, u5, wh5, wo5⟩ hI
        dsimp only at hI ⊢
        obtain ⟨huc, hm12, ⟨r9, hr9⟩, hg9⟩ := hB
        have he9 : e7 = 0 := (Prod.mk.inj (hI.symm.trans hr9)).1.symm
        obtain ⟨hu9, nm9, bP9, bH9, wh9, wo9, hs9, ⟨hag, hwh⟩, hrow, hlaw, hwo⟩ := hg9 he9
        have heq := hI.symm.trans hs9
        simp only [Prod.mk.injEq] at heq
        obtain ⟨-, -, z2, z3, z4, z5, z6, z7, z8⟩ := heq
        refine J_iload_n C iX10_read_44 rfl rfl ?_
        refine J_aload_n C iX10_read_45 rfl rfl ?_
        refine J_get (.int (nI i8)) 0 C iX10_read_46 gf_X10_263 rfl rfl ?_
        refine J_icmpge 84 C iX10_read_49 rfl (fun h49 => ?_) (fun h49 => absurd (nI_le (Nat.le_refl i8) (by omega)) h49)
        refine J_aload_n C iX10_read_84 rfl rfl ?_
        refine J_aload_n C iX10_read_85 rfl rfl ?_
        refine J_cV (As := [.ref (pn 0)]) (st := []) (rc2 := (rmK 47).cells) (rs2 := (rmK 47).slots) C iX10_read_86 lm_X10_376 yc_X10_settle yv_X10_settle (c_X10_settle (m := m7) (tq := (tkT tz tb)) (nm := nm7) (vq := (vfF tz tb vf0 (tL tz tb + 1))) (o := o7) (g := g7) (j := j7) (by omega) (by omega) hrow (fun k hk h6 => by rw [z8]; exact hwo k hk h6)) (q0 := 0) rfl rfl rfl rfl (rmK_le (by omega) (by decide)) (Nat.le_of_ble_eq_true rfl) rfl rfl ?_
        rintro _ _ ⟨wi9, al9, rfl, rfl, hrs⟩
        refine J_st ([]) rfl ?_
        refine J_iconst 0 C iX10_read_89 rfl ?_
        exact J_iret C E iX10_read_90 ⟨0, ea, nI i8, nI 0, nI u8, kd6, fr6, me8, va6, wo5, nI m5, nI u5, nI s8, hn5, ha5, hh5, dz8, wh5, bg8, en8, od8, wi9, al9, rfl, rfl, Or.inr ⟨rfl, rfl, i8, false, a7, s8, o7, g7, j7, m7, nm7, bP7, bH7, uc7, l0x7, l1x7, l2x7, l3x7, l4x7, l5x7, by rw [hR, he9], by rw [z2], by rw [z6, show uc7 = u8 by omega], rfl, hm12, by omega, by omega, fun k hk => ⟨by rw [z3]; exact (hag k hk).1, by rw [z4]; exact (hag k hk).2.1, by rw [z5]; exact (hag k hk).2.2⟩, fun k hk => ⟨by rw [z7]; exact hwh k (by omega), hlaw k (by omega)⟩, hrs⟩, Or.inl rfl⟩
      · rintro k ⟨m5, hn5, ha5, hh5, u5, wh5, wo5⟩ hk0 hk hI ih
        dsimp only at hI ⊢
        obtain ⟨-, pm, pu, pM, pU⟩ := p2_inv k hI
        obtain ⟨c1, c2, c3⟩ := hMk k hk
        refine J_iload_n C iX10_read_44 rfl rfl ?_
        refine J_aload_n C iX10_read_45 rfl rfl ?_
        refine J_get (.int (nI i8)) 0 C iX10_read_46 gf_X10_263 rfl rfl ?_
        refine J_icmpge 84 C iX10_read_49 rfl (fun h49 => absurd h49 (nI_ge hk (by omega))) (fun h49 => ?_)
        refine J_aload_n C iX10_read_52 rfl rfl ?_
        refine J_aload_n C iX10_read_53 rfl rfl ?_
        refine J_iload_n C iX10_read_54 rfl rfl ?_
        refine J_cV (As := [.ref (pn 0), .int (nI k)]) (st := []) (rc2 := (rmK 47).cells) (rs2 := (rmK 47).slots) C iX10_read_55 lm_X10_373 yc_X10_errorOf yv_X10_errorOf (c_X10_errorOf (a := -1) (sq := (sfF tz tb sf0 (tL tz tb + 1))) (vq := (vfF tz tb vf0 (tL tz tb + 1))) pm pu (by omega) (fun q => pM (c2 q)) (fun q => pU (c3 q)) (mk_06 c1) (fun q0 q4 => hva k (by omega) (mk_p c1 q0 q4))) (q0 := 0) rfl rfl rfl rfl (rmK_le (by omega) (by decide)) (Nat.le_of_ble_eq_true rfl) rfl rfl ?_
        rintro _ _ (⟨rfl, m9, hn9, ha9, hh9, u9, wh9, wo9, rfl, hE⟩ | ⟨er9, m9, hn9, ha9, hh9, u9, wh9, wo9, rfl, hne, rfl, r9, hE⟩)
        · refine J_st (.int 0 :: []) rfl ?_
          refine J_istore_n [(3, .int 0), (2, .int (nI k)), (0, .ref (mo 0)), (1, .ref (pn 0))] C iX10_read_58 rfl (by decide) rfl ?_
          refine J_iload_n C iX10_read_59 rfl rfl ?_
          refine J_ifne 66 C iX10_read_60 rfl (fun h60 => absurd (by decide) h60) (fun h60 => ?_)
          refine J_goto 78 C iX10_read_63 rfl ?_
          refine J_iinc ((nI k) + 1) [(2, .int ((nI k) + 1)), (3, .int 0), (0, .ref (mo 0)), (1, .ref (pn 0))] C iX10_read_78 rfl rfl (by decide) rfl ?_
          rw [show (nI k) + 1 = nI (k + 1) from nI_add _ _]
          refine J_goto 44 C iX10_read_81 rfl ?_
          refine J_lvm [(2, .int (nI (k + 1))), (0, .ref (mo 0)), (1, .ref (pn 0))] rfl ?_
          exact ih (m9, hn9, ha9, hh9, u9, wh9, wo9) (by dsimp only; rw [p2N, hI, Nat.zero_add]; exact hE)
        · refine J_st (.int er9 :: []) rfl ?_
          refine J_istore_n [(3, .int er9), (2, .int (nI k)), (0, .ref (mo 0)), (1, .ref (pn 0))] C iX10_read_58 rfl (by decide) rfl ?_
          refine J_iload_n C iX10_read_59 rfl rfl ?_
          refine J_ifne 66 C iX10_read_60 rfl (fun h60 => ?_) (fun h60 => absurd h60 hne)
          have hfin : e7 = er9 ∧ a7 = (sfF tz tb sf0 (tL tz tb + 1)) k := by
            obtain ⟨-, -, ⟨r8, hr8⟩, -⟩ := hB
            have e8 : p2N (sfF tz tb sf0 (tL tz tb + 1)) (vfF tz tb vf0 (tL tz tb + 1)) me8 0 (0, -1, 0, hn, ha, hh, 0, wh, wo) i8 = (er9, (sfF tz tb sf0 (tL tz tb + 1)) k, r9) := by
              rw [show i8 = (k + 1) + (i8 - (k + 1)) by omega, p2N_add, p2N, hI, Nat.zero_add, Nat.zero_add, hE, p2N_frozen hne]
            have e7' := hr8.symm.trans e8
            simp only [Prod.mk.injEq] at e7'
            exact ⟨e7'.1, e7'.2.1⟩
          refine J_aload_n C iX10_read_66 rfl rfl ?_
          refine J_aload_n C iX10_read_67 rfl rfl ?_
          refine J_get (.ref (mo 3)) 0 C iX10_read_68 gf_X10_27 rfl rfl ?_
          refine J_iload_n C iX10_read_71 rfl rfl ?_
          refine J_iald 3 C iX10_read_72 rfl (vp_in_nI (n := k) (by omega) (by decide)) ?_
          rw [nI_clamp (n := k) (by omega)]
          refine J_put (wMd Z mo pl th (nI tz) (fr6 k) (nI i8) (nI 0) (nI u8) dy ca kn tp kd6 fr6 me8 va6 wo9 pc ht fs la kh kf kl sh dk sk ++ wPl Z pn (nI m9) (nI u9) (nI s8) hn9 ha9 hh9 dz8 wh9 bg8 en8 od8 wi8 al8) 0 C iX10_read_73 pf_X10_13 rfl rfl rfl (Nat.le_of_ble_eq_true rfl) rfl ?_
          refine J_iload_n C iX10_read_76 rfl rfl ?_
          exact J_iret C E iX10_read_77 ⟨er9, fr6 k, nI i8, nI 0, nI u8, kd6, fr6, me8, va6, wo9, nI m9, nI u9, nI s8, hn9, ha9, hh9, dz8, wh9, bg8, en8, od8, wi8, al8, rfl, rfl, Or.inl ⟨hne, by rw [hR]; exact hfin.1, by rw [hR, hfr k (by omega)]; exact hfin.2⟩, Or.inr (p2S_pos hE hne)⟩
    · refine J_st (.int (b2i false) :: []) rfl ?_
      refine J_ifneb 42 C iX10_read_24 rfl (fun h24 => absurd (h24.symm.trans rfl) (by decide)) (fun h24 => ?_)
      refine J_aload_n C iX10_read_27 rfl rfl ?_
      refine J_aload_n C iX10_read_28 rfl rfl ?_
      refine J_get (.ref (mo 3)) 0 C iX10_read_29 gf_X10_27 rfl rfl ?_
      refine J_aload_n C iX10_read_32 rfl rfl ?_
      refine J_get (.int (nI i8)) 0 C iX10_read_33 gf_X10_263 rfl rfl ?_
      refine J_iald 3 C iX10_read_36 rfl (vp_in_nI (n := i8) (by omega) (by decide)) ?_
      rw [nI_clamp (n := i8) (by omega)]
      refine J_put (wMd Z mo pl th (nI tz) (fr6 i8) (nI i8) dp8 lr8 dy ca kn tp kd6 fr6 me8 va6 wo pc ht fs la kh kf kl sh dk sk ++ wPl Z pn 0 0 mn8 hn ha hh dz8 wh bg8 en8 od8 wi8 al8) 0 C iX10_read_37 pf_X10_13 rfl rfl rfl (Nat.le_of_ble_eq_true rfl) rfl ?_
      refine J_iconst 1 C iX10_read_40 rfl ?_
      exact J_iret C E iX10_read_41 ⟨1, fr6 i8, nI i8, dp8, lr8, kd6, fr6, me8, va6, wo, 0, 0, mn8, hn, ha, hh, dz8, wh, bg8, en8, od8, wi8, al8, rfl, rfl, Or.inl ⟨by decide, by obtain ⟨r, e9⟩ := hBk; rw [e9], by obtain ⟨r, e9⟩ := hBk; rw [e9, hfr i8 hi8]⟩, Or.inr (by decide)⟩

