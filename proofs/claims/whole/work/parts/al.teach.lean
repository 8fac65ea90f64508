theorem plan_def : ∀ j, j < 13 → defaultValue (tyX9 j) = vp_V [.int 0, .null, .null, .null, .int 0, .null, .null, .null, .null, .null, .null, .null, .int 0] j := by
  intro j hj
  match j, hj with
  | 0, _ => rfl
  | 1, _ => rfl
  | 2, _ => rfl
  | 3, _ => rfl
  | 4, _ => rfl
  | 5, _ => rfl
  | 6, _ => rfl
  | 7, _ => rfl
  | 8, _ => rfl
  | 9, _ => rfl
  | 10, _ => rfl
  | 11, _ => rfl
  | 12, _ => rfl
set_option maxRecDepth 100000 in
set_option maxHeartbeats 4000000 in
theorem c_X10_teach {Z : GZ} {l : Launch} {mo pl : Nat → Nat} {N tz : Nat} {th ea tk dp lr dy ca ls mn : Int32} {kn : Bool} {hn va vf0 : Nat → Int64} {ha hh dz wh bg en od wi al sf0 tp kd fr me wo pc ht fs la kh kf kl sh dk sk : Nat → Int32} {tb o g j bP bH l0 l1 l2 l3 l4 l5 : Nat → Int32} {nm : Nat → Int64} (htz : tz ≤ 2000) (htp : ∀ p, p < tz → tp p = sgN tz tb p)  : Ct Z l yX10_teach cX10_teach 4 (some .int) (rmM 48 11 2577) [.ref (mo 0)] (wMd Z mo pl th (nI tz) ea tk dp lr dy ca kn tp kd fr me va wo pc ht fs la kh kf kl sh dk sk ++ wPl Z pl (nI N) ls mn hn ha hh dz wh bg en od wi al) (fun v w => ∃ e2 ea2 tk2 dp2 lr2 kd2 fr2 me2 va2 wo2, (e2 ≠ 0 ∧ (readR (tkT tz tb) (sfF tz tb sf0 (tL tz tb + 1)) (vfF tz tb vf0 (tL tz tb + 1)) 400 ((0, false, 0, -1, 0, o, g, j), 0, nm, bP, bH, 0, l0, l1, l2, l3, l4, l5)).1.2.2.1 = e2 ∧ (readR (tkT tz tb) (sfF tz tb sf0 (tL tz tb + 1)) (vfF tz tb vf0 (tL tz tb + 1)) 400 ((0, false, 0, -1, 0, o, g, j), 0, nm, bP, bH, 0, l0, l1, l2, l3, l4, l5)).1.2.2.2.1 = ea2 ∧ v = some (.int e2) ∧ w = (wMd Z mo pl 0 0 ea2 tk2 dp2 lr2 dy ca kn tp kd2 fr2 me2 va2 wo2 pc ht fs la kh kf kl sh dk sk ++ wPl Z pl (nI N) ls mn hn ha hh dz wh bg en od wi al)) ∨ (e2 = 0 ∧ ∃ pn i9 b9 a9 s9 o9 g9 j9 m9 nm9 bP9 bH9 u9 l09 l19 l29 l39 l49 l59 hn2 ha2 hh2 dz2 wh2 bg2 en2 od2 wi2 al2, readR (tkT tz tb) (sfF tz tb sf0 (tL tz tb + 1)) (vfF tz tb vf0 (tL tz tb + 1)) 400 ((0, false, 0, -1, 0, o, g, j), 0, nm, bP, bH, 0, l0, l1, l2, l3, l4, l5) = ((i9, b9, 0, a9, s9, o9, g9, j9), m9, nm9, bP9, bH9, u9, l09, l19, l29, l39, l49, l59) ∧ PlanOk m9 u9 s9 hn2 ha2 hh2 dz2 wh2 bg2 en2 od2 wi2 al2 nm9 bP9 bH9 o9 g9 j9 l09 l19 l29 l39 l49 l59 ∧ v = some (.int 0) ∧ w = (wMd Z mo pn 0 0 (-1) tk2 dp2 lr2 0 0 false tp kd2 fr2 me2 va2 wo2 (fillN ha2 pc m9) (fillN hh2 ht m9) (fillN (fun _ => -1) fs m9) (fillN (fun _ => -1) la m9) kh kf kl sh dk sk ++ wPl Z pn (nI m9) (nI u9) (nI s9) hn2 ha2 hh2 dz2 wh2 bg2 en2 od2 wi2 al2))) := by
  refine Ct.ofJ (own := RX10) (nm := "teach") (lv0 := [(0, .ref (mo 0))]) (by decide) rfl rfl (Nat.le_of_ble_eq_true rfl) rfl (fun X hXl C E => ?_)
  subst hXl
  refine J_aload_n C iX10_teach_0 rfl rfl ?_
  refine J_iconst 0 C iX10_teach_1 rfl ?_
  refine J_put (wMd Z mo pl 0 (nI tz) ea tk dp lr dy ca kn tp kd fr me va wo pc ht fs la kh kf kl sh dk sk ++ wPl Z pl (nI N) ls mn hn ha hh dz wh bg en od wi al) 0 C iX10_teach_2 pf_X10_70 rfl rfl rfl (Nat.le_of_ble_eq_true rfl) rfl ?_
  refine J_aload_n C iX10_teach_5 rfl rfl ?_
  refine J_iconst (-1) C iX10_teach_6 rfl ?_
  refine J_put (wMd Z mo pl 0 (nI tz) (-1) tk dp lr dy ca kn tp kd fr me va wo pc ht fs la kh kf kl sh dk sk ++ wPl Z pl (nI N) ls mn hn ha hh dz wh bg en od wi al) 0 C iX10_teach_7 pf_X10_13 rfl rfl rfl (Nat.le_of_ble_eq_true rfl) rfl ?_
  refine J_new (rc := 10) (rs := 2564) (ci := 8) [.int 0, .null, .null, .null, .int 0, .null, .null, .null, .null, .null, .null, .null, .int 0] tyX9 C iX10_teach_10 rfl lay_X9 tyX9_ok (tsg_in (i := 1191) (by decide +kernel) rfl) (tsg_in (i := 1192) (by decide +kernel) rfl) (tsg_in (i := 108) (by decide +kernel) rfl) plan_def (fun q9 => ?_)
  refine J_dup C iX10_teach_13 rfl ?_
  refine J_cINb (As := []) (st := .ref q9 :: []) (rc2 := 0) (rs2 := 0) (w0 := [(q9, .inr (8, [.int 0, .null, .null, .null, .int 0, .null, .null, .null, .null, .null, .null, .null, .int 0]))]) C iX10_teach_14 ln_X10_19 yc_X9_init yi_X9_init c_X9_init (wMd Z mo pl 0 (nI tz) (-1) tk dp lr dy ca kn tp kd fr me va wo pc ht fs la kh kf kl sh dk sk ++ wPl Z pl (nI N) ls mn hn ha hh dz wh bg en od wi al) [] (by simp only [List.append_assoc, List.append_nil, List.nil_append]) rfl ⟨by decide, by decide⟩ (Nat.le_of_ble_eq_true rfl) rfl rfl ?_
  rintro _ _ ⟨pn, hpn, rfl, rfl⟩
  subst hpn
  refine J_st (.ref (pn 0) :: []) rfl ?_
  refine J_ws ((wMd Z mo pl 0 (nI tz) (-1) tk dp lr dy ca kn tp kd fr me va wo pc ht fs la kh kf kl sh dk sk ++ wPl Z pl (nI N) ls mn hn ha hh dz wh bg en od wi al) ++ wPl Z pn 0 0 0 (fun _ => 0) (fun _ => 0) (fun _ => 0) (fun _ => 0) (fun _ => 0) (fun _ => 0) (fun _ => 0) (fun _ => 0) (fun _ => 0) (fun _ => 0)) (by simp only [List.append_assoc, List.append_nil, List.nil_append]) ?_
  refine J_perm ((wPl Z pl (nI N) ls mn hn ha hh dz wh bg en od wi al ++ wMd Z mo pl 0 (nI tz) (-1) tk dp lr dy ca kn tp kd fr me va wo pc ht fs la kh kf kl sh dk sk) ++ wPl Z pn 0 0 0 (fun _ => 0) (fun _ => 0) (fun _ => 0) (fun _ => 0) (fun _ => 0) (fun _ => 0) (fun _ => 0) (fun _ => 0) (fun _ => 0) (fun _ => 0)) (List.perm_append_comm.append_right _) ?_
  refine J_astore_n [(1, .ref (pn 0)), (0, .ref (mo 0))] C iX10_teach_17 rfl (by decide) rfl ?_
  refine J_aload_n C iX10_teach_18 rfl rfl ?_
  refine J_aload_n C iX10_teach_19 rfl rfl ?_
  refine J_cVb (As := [.ref (pn 0)]) (st := []) (rc2 := 0) (rs2 := 0) (w0 := (wMd Z mo pl 0 (nI tz) (-1) tk dp lr dy ca kn tp kd fr me va wo pc ht fs la kh kf kl sh dk sk ++ wPl Z pn 0 0 0 (fun _ => 0) (fun _ => 0) (fun _ => 0) (fun _ => 0) (fun _ => 0) (fun _ => 0) (fun _ => 0) (fun _ => 0) (fun _ => 0) (fun _ => 0))) C iX10_teach_20 lm_X10_383 yc_X10_read yv_X10_read (c_X10_readP (sf0 := sf0) (vf0 := vf0) (o := o) (g := g) (j := j) (bP := bP) (bH := bH) (l0 := l0) (l1 := l1) (l2 := l2) (l3 := l3) (l4 := l4) (l5 := l5) (nm := nm) htz htp) (q0 := 0) rfl rfl rfl (wPl Z pl (nI N) ls mn hn ha hh dz wh bg en od wi al) [] (by simp only [List.append_assoc, List.append_nil, List.nil_append]) rfl (rmK_le (by omega) (by decide)) (Nat.le_of_ble_eq_true rfl) rfl rfl ?_
  rintro _ _ ⟨e2, ea2, tk2, dp2, lr2, kd2, fr2, me2, va2, wo2, hs2, ls2, mn2, hn2, ha2, hh2, dz2, wh2, bg2, en2, od2, wi2, al2, rfl, rfl, hRK, hpos⟩
  refine J_st (.int e2 :: []) rfl ?_
  refine J_ws ((wPl Z pl (nI N) ls mn hn ha hh dz wh bg en od wi al ++ wMd Z mo pl 0 (nI tz) ea2 tk2 dp2 lr2 dy ca kn tp kd2 fr2 me2 va2 wo2 pc ht fs la kh kf kl sh dk sk) ++ wPl Z pn hs2 ls2 mn2 hn2 ha2 hh2 dz2 wh2 bg2 en2 od2 wi2 al2) (by simp only [List.append_assoc, List.append_nil, List.nil_append]) ?_
  refine J_istore_n [(2, .int e2), (1, .ref (pn 0)), (0, .ref (mo 0))] C iX10_teach_23 rfl (by decide) rfl ?_
  refine J_aload_n C iX10_teach_24 rfl rfl ?_
  refine J_iconst 0 C iX10_teach_25 rfl ?_
  refine J_put ((wPl Z pl (nI N) ls mn hn ha hh dz wh bg en od wi al ++ wMd Z mo pl 0 0 ea2 tk2 dp2 lr2 dy ca kn tp kd2 fr2 me2 va2 wo2 pc ht fs la kh kf kl sh dk sk) ++ wPl Z pn hs2 ls2 mn2 hn2 ha2 hh2 dz2 wh2 bg2 en2 od2 wi2 al2) 11 C iX10_teach_26 pf_X10_217 rfl rfl rfl (Nat.le_of_ble_eq_true rfl) rfl ?_
  refine J_iload_n C iX10_teach_29 rfl rfl ?_
  refine J_ifle 35 C iX10_teach_30 rfl (fun h30 => ?_) (fun h30 => ?_)
  · have he0 : e2 = 0 := hpos.resolve_right (fun z => Int32.not_lt.mpr h30 z)
    subst he0
    rcases hRK with ⟨z, -, -⟩ | ⟨-, rfl, i9, b9, a9, s9, o9, g9, j9, m9, nm9, bP9, bH9, u9, l09, l19, l29, l39, l49, l59, hX9, rfl, rfl, rfl, hPO⟩
    · exact absurd rfl z
    have hm12 : m9 ≤ 12 := hPO.1
    refine J_aload_n C iX10_teach_35 rfl rfl ?_
    refine J_aload_n C iX10_teach_36 rfl rfl ?_
    refine J_put ((wPl Z pl (nI N) ls mn hn ha hh dz wh bg en od wi al ++ wMd Z mo pn 0 0 (-1) tk2 dp2 lr2 dy ca kn tp kd2 fr2 me2 va2 wo2 pc ht fs la kh kf kl sh dk sk) ++ wPl Z pn (nI m9) (nI u9) (nI s9) hn2 ha2 hh2 dz2 wh2 bg2 en2 od2 wi2 al2) 11 C iX10_teach_37 pf_X10_20 rfl rfl rfl (Nat.le_of_ble_eq_true rfl) rfl ?_
    refine J_iconst 0 C iX10_teach_40 rfl ?_
    refine J_istore_n [(3, .int 0), (2, .int 0), (1, .ref (pn 0)), (0, .ref (mo 0))] C iX10_teach_41 rfl (by decide) rfl ?_
    refine J_ws ((wPl Z pl (nI N) ls mn hn ha hh dz wh bg en od wi al ++ wMd Z mo pn 0 0 (-1) tk2 dp2 lr2 dy ca kn tp kd2 fr2 me2 va2 wo2 (fillN ha2 pc 0) (fillN hh2 ht 0) (fillN (fun _ => -1) fs 0) (fillN (fun _ => -1) la 0) kh kf kl sh dk sk) ++ wPl Z pn (nI m9) (nI u9) (nI s9) hn2 ha2 hh2 dz2 wh2 bg2 en2 od2 wi2 al2) (by rw [fillN_0, fillN_0, fillN_0, fillN_0]) ?_
    refine J_lvm [(3, .int 0), (1, .ref (pn 0)), (0, .ref (mo 0))] (by rfl) ?_
    refine J_forI (σ := Bool) (fun k q => [(3, .int (nI k)), (1, .ref (pn 0)), (0, .ref (mo 0))]) (fun k q => ((wPl Z pl (nI N) ls mn hn ha hh dz wh bg en od wi al ++ wMd Z mo pn 0 0 (-1) tk2 dp2 lr2 dy ca q tp kd2 fr2 me2 va2 wo2 (fillN ha2 pc k) (fillN hh2 ht k) (fillN (fun _ => -1) fs k) (fillN (fun _ => -1) la k) kh kf kl sh dk sk) ++ wPl Z pn (nI m9) (nI u9) (nI s9) hn2 ha2 hh2 dz2 wh2 bg2 en2 od2 wi2 al2)) (fun k q => True) m9 0 kn (by omega) trivial ?_ ?_
    · rintro kn5 -
      refine J_iload_n C iX10_teach_42 rfl rfl ?_
      refine J_aload_n C iX10_teach_43 rfl rfl ?_
      refine J_get (.ref (pn 0)) 11 C iX10_teach_44 gf_X10_20 rfl rfl ?_
      refine J_get (.int (nI m9)) 28 C iX10_teach_47 gf_X10_73 rfl rfl ?_
      refine J_icmpge 95 C iX10_teach_50 rfl (fun h50 => ?_) (fun h50 => absurd (nI_le (Nat.le_refl m9) (by omega)) h50)
      refine J_aload_n C iX10_teach_95 rfl rfl ?_
      refine J_iconst 0 C iX10_teach_96 rfl ?_
      refine J_put ((wPl Z pl (nI N) ls mn hn ha hh dz wh bg en od wi al ++ wMd Z mo pn 0 0 (-1) tk2 dp2 lr2 0 ca kn5 tp kd2 fr2 me2 va2 wo2 (fillN ha2 pc m9) (fillN hh2 ht m9) (fillN (fun _ => -1) fs m9) (fillN (fun _ => -1) la m9) kh kf kl sh dk sk) ++ wPl Z pn (nI m9) (nI u9) (nI s9) hn2 ha2 hh2 dz2 wh2 bg2 en2 od2 wi2 al2) 11 C iX10_teach_97 pf_X10_127 rfl rfl rfl (Nat.le_of_ble_eq_true rfl) rfl ?_
      refine J_aload_n C iX10_teach_100 rfl rfl ?_
      refine J_iconst 0 C iX10_teach_101 rfl ?_
      refine J_put ((wPl Z pl (nI N) ls mn hn ha hh dz wh bg en od wi al ++ wMd Z mo pn 0 0 (-1) tk2 dp2 lr2 0 0 kn5 tp kd2 fr2 me2 va2 wo2 (fillN ha2 pc m9) (fillN hh2 ht m9) (fillN (fun _ => -1) fs m9) (fillN (fun _ => -1) la m9) kh kf kl sh dk sk) ++ wPl Z pn (nI m9) (nI u9) (nI s9) hn2 ha2 hh2 dz2 wh2 bg2 en2 od2 wi2 al2) 11 C iX10_teach_102 pf_X10_130 rfl rfl rfl (Nat.le_of_ble_eq_true rfl) rfl ?_
      refine J_aload_n C iX10_teach_105 rfl rfl ?_
      refine J_iconst 0 C iX10_teach_106 rfl ?_
      refine J_put ((wPl Z pl (nI N) ls mn hn ha hh dz wh bg en od wi al ++ wMd Z mo pn 0 0 (-1) tk2 dp2 lr2 0 0 false tp kd2 fr2 me2 va2 wo2 (fillN ha2 pc m9) (fillN hh2 ht m9) (fillN (fun _ => -1) fs m9) (fillN (fun _ => -1) la m9) kh kf kl sh dk sk) ++ wPl Z pn (nI m9) (nI u9) (nI s9) hn2 ha2 hh2 dz2 wh2 bg2 en2 od2 wi2 al2) 11 C iX10_teach_107 pf_X10_96 rfl rfl rfl (Nat.le_of_ble_eq_true rfl) rfl ?_
      refine J_iconst 0 C iX10_teach_110 rfl ?_
      refine J_perm ((wMd Z mo pn 0 0 (-1) tk2 dp2 lr2 0 0 false tp kd2 fr2 me2 va2 wo2 (fillN ha2 pc m9) (fillN hh2 ht m9) (fillN (fun _ => -1) fs m9) (fillN (fun _ => -1) la m9) kh kf kl sh dk sk ++ wPl Z pl (nI N) ls mn hn ha hh dz wh bg en od wi al) ++ wPl Z pn (nI m9) (nI u9) (nI s9) hn2 ha2 hh2 dz2 wh2 bg2 en2 od2 wi2 al2) (List.perm_append_comm.append_right _) ?_
      refine J_perm ((wMd Z mo pn 0 0 (-1) tk2 dp2 lr2 0 0 false tp kd2 fr2 me2 va2 wo2 (fillN ha2 pc m9) (fillN hh2 ht m9) (fillN (fun _ => -1) fs m9) (fillN (fun _ => -1) la m9) kh kf kl sh dk sk ++ wPl Z pn (nI m9) (nI u9) (nI s9) hn2 ha2 hh2 dz2 wh2 bg2 en2 od2 wi2 al2) ++ wPl Z pl (nI N) ls mn hn ha hh dz wh bg en od wi al) (sw2 _ _ _) ?_
      refine J_cut (ws := (wMd Z mo pn 0 0 (-1) tk2 dp2 lr2 0 0 false tp kd2 fr2 me2 va2 wo2 (fillN ha2 pc m9) (fillN hh2 ht m9) (fillN (fun _ => -1) fs m9) (fillN (fun _ => -1) la m9) kh kf kl sh dk sk ++ wPl Z pn (nI m9) (nI u9) (nI s9) hn2 ha2 hh2 dz2 wh2 bg2 en2 od2 wi2 al2)) _ ?_
      exact J_iret C E iX10_teach_111 ⟨0, -1, tk2, dp2, lr2, kd2, fr2, me2, va2, wo2, Or.inr ⟨rfl, pn, i9, b9, a9, s9, o9, g9, j9, m9, nm9, bP9, bH9, u9, l09, l19, l29, l39, l49, l59, hn2, ha2, hh2, dz2, wh2, bg2, en2, od2, wi2, al2, hX9, hPO, rfl, rfl⟩⟩
    · rintro k kn5 hk0 hk - ih
      refine J_iload_n C iX10_teach_42 rfl rfl ?_
      refine J_aload_n C iX10_teach_43 rfl rfl ?_
      refine J_get (.ref (pn 0)) 11 C iX10_teach_44 gf_X10_20 rfl rfl ?_
      refine J_get (.int (nI m9)) 28 C iX10_teach_47 gf_X10_73 rfl rfl ?_
      refine J_icmpge 95 C iX10_teach_50 rfl (fun h50 => absurd h50 (nI_ge hk (by omega))) (fun h50 => ?_)
      refine J_aload_n C iX10_teach_53 rfl rfl ?_
      refine J_get (.ref (mo 7)) 11 C iX10_teach_54 gf_X10_40 rfl rfl ?_
      refine J_iload_n C iX10_teach_57 rfl rfl ?_
      refine J_aload_n C iX10_teach_58 rfl rfl ?_
      refine J_get (.ref (pn 0)) 11 C iX10_teach_59 gf_X10_20 rfl rfl ?_
      refine J_get (.ref (pn 2)) 28 C iX10_teach_62 gf_X10_344 rfl rfl ?_
      refine J_iload_n C iX10_teach_65 rfl rfl ?_
      refine J_iald 30 C iX10_teach_66 rfl (vp_in_nI (n := k) (by omega) (by decide)) ?_
      rw [nI_clamp (n := k) (by omega)]
      refine J_iast ((wPl Z pl (nI N) ls mn hn ha hh dz wh bg en od wi al ++ wMd Z mo pn 0 0 (-1) tk2 dp2 lr2 dy ca kn5 tp kd2 fr2 me2 va2 wo2 (upd (fillN ha2 pc k) (nI k).toNatClampNeg (ha2 k)) (fillN hh2 ht k) (fillN (fun _ => -1) fs k) (fillN (fun _ => -1) la k) kh kf kl sh dk sk) ++ wPl Z pn (nI m9) (nI u9) (nI s9) hn2 ha2 hh2 dz2 wh2 bg2 en2 od2 wi2 al2) 18 C iX10_teach_67 rfl (vp_in_nI (n := k) (by omega) (by decide)) rfl ?_
      rw [nI_clamp (n := k) (by omega)]
      refine J_aload_n C iX10_teach_68 rfl rfl ?_
      refine J_iload_n C iX10_teach_69 rfl rfl ?_
      refine J_aload_n C iX10_teach_70 rfl rfl ?_
      refine J_get (.ref (pn 0)) 11 C iX10_teach_71 gf_X10_20 rfl rfl ?_
      refine J_get (.ref (pn 3)) 28 C iX10_teach_74 gf_X10_347 rfl rfl ?_
      refine J_iload_n C iX10_teach_77 rfl rfl ?_
      refine J_iald 31 C iX10_teach_78 rfl (vp_in_nI (n := k) (by omega) (by decide)) ?_
      rw [nI_clamp (n := k) (by omega)]
      refine J_cVb (As := [.int (nI k), .int (hh2 k)]) (st := []) (rc2 := 0) (rs2 := 0) (w0 := (wMd Z mo pn 0 0 (-1) tk2 dp2 lr2 dy ca kn5 tp kd2 fr2 me2 va2 wo2 (upd (fillN ha2 pc k) k (ha2 k)) (fillN hh2 ht k) (fillN (fun _ => -1) fs k) (fillN (fun _ => -1) la k) kh kf kl sh dk sk ++ wPl Z pn (nI m9) (nI u9) (nI s9) hn2 ha2 hh2 dz2 wh2 bg2 en2 od2 wi2 al2)) C iX10_teach_79 lm_X10_159 yc_X10_raiseTo yv_X10_raiseTo (c_X10_raiseTo (by omega)) (q0 := 0) rfl rfl rfl (wPl Z pl (nI N) ls mn hn ha hh dz wh bg en od wi al) [] (by simp only [List.append_assoc, List.append_nil, List.nil_append]) rfl (rmK_le (by omega) (by decide)) (Nat.le_of_ble_eq_true rfl) rfl rfl ?_
      rintro _ _ ⟨rfl, rfl⟩
      refine J_st ([]) rfl ?_
      refine J_ws ((wPl Z pl (nI N) ls mn hn ha hh dz wh bg en od wi al ++ wMd Z mo pn 0 0 (-1) tk2 dp2 lr2 dy ca false tp kd2 fr2 me2 va2 wo2 (upd (fillN ha2 pc k) k (ha2 k)) (upd (fillN hh2 ht k) k (hh2 k)) (fillN (fun _ => -1) fs k) (fillN (fun _ => -1) la k) kh kf kl sh dk sk) ++ wPl Z pn (nI m9) (nI u9) (nI s9) hn2 ha2 hh2 dz2 wh2 bg2 en2 od2 wi2 al2) (by simp only [List.append_assoc, List.append_nil, List.nil_append]) ?_
      refine J_aload_n C iX10_teach_82 rfl rfl ?_
      refine J_iload_n C iX10_teach_83 rfl rfl ?_
      refine J_iconst (-1) C iX10_teach_84 rfl ?_
      refine J_iconst (-1) C iX10_teach_85 rfl ?_
      refine J_cVb (As := [.int (nI k), .int (-1), .int (-1)]) (st := []) (rc2 := 0) (rs2 := 0) (w0 := (wMd Z mo pn 0 0 (-1) tk2 dp2 lr2 dy ca false tp kd2 fr2 me2 va2 wo2 (upd (fillN ha2 pc k) k (ha2 k)) (upd (fillN hh2 ht k) k (hh2 k)) (fillN (fun _ => -1) fs k) (fillN (fun _ => -1) la k) kh kf kl sh dk sk ++ wPl Z pn (nI m9) (nI u9) (nI s9) hn2 ha2 hh2 dz2 wh2 bg2 en2 od2 wi2 al2)) C iX10_teach_86 lm_X10_148 yc_X10_curfew yv_X10_curfew (c_X10_curfew (by omega)) (q0 := 0) rfl rfl rfl (wPl Z pl (nI N) ls mn hn ha hh dz wh bg en od wi al) [] (by simp only [List.append_assoc, List.append_nil, List.nil_append]) rfl (rmK_le (by omega) (by decide)) (Nat.le_of_ble_eq_true rfl) rfl rfl ?_
      rintro _ _ ⟨rfl, rfl⟩
      refine J_st ([]) rfl ?_
      refine J_ws ((wPl Z pl (nI N) ls mn hn ha hh dz wh bg en od wi al ++ wMd Z mo pn 0 0 (-1) tk2 dp2 lr2 dy ca false tp kd2 fr2 me2 va2 wo2 (upd (fillN ha2 pc k) k (ha2 k)) (upd (fillN hh2 ht k) k (hh2 k)) (upd (fillN (fun _ => -1) fs k) k (-1)) (upd (fillN (fun _ => -1) la k) k (-1)) kh kf kl sh dk sk) ++ wPl Z pn (nI m9) (nI u9) (nI s9) hn2 ha2 hh2 dz2 wh2 bg2 en2 od2 wi2 al2) (by simp only [List.append_assoc, List.append_nil, List.nil_append]) ?_
      refine J_iinc ((nI k) + 1) [(3, .int ((nI k) + 1)), (1, .ref (pn 0)), (0, .ref (mo 0))] C iX10_teach_89 rfl rfl (by decide) rfl ?_
      rw [show (nI k) + 1 = nI (k + 1) from nI_add _ _]
      refine J_goto 42 C iX10_teach_92 rfl ?_
      refine J_lvm [(3, .int (nI (k + 1))), (1, .ref (pn 0)), (0, .ref (mo 0))] rfl ?_
      rw [fillN_s ha2 pc k, fillN_s hh2 ht k, fillN_s (fun _ => -1) fs k, fillN_s (fun _ => -1) la k]
      exact ih false trivial
  · refine J_iload_n C iX10_teach_33 rfl rfl ?_
    refine J_perm ((wMd Z mo pl 0 0 ea2 tk2 dp2 lr2 dy ca kn tp kd2 fr2 me2 va2 wo2 pc ht fs la kh kf kl sh dk sk ++ wPl Z pl (nI N) ls mn hn ha hh dz wh bg en od wi al) ++ wPl Z pn hs2 ls2 mn2 hn2 ha2 hh2 dz2 wh2 bg2 en2 od2 wi2 al2) (List.perm_append_comm.append_right _) ?_
    refine J_cut (ws := (wMd Z mo pl 0 0 ea2 tk2 dp2 lr2 dy ca kn tp kd2 fr2 me2 va2 wo2 pc ht fs la kh kf kl sh dk sk ++ wPl Z pl (nI N) ls mn hn ha hh dz wh bg en od wi al)) _ ?_
    exact J_iret C E iX10_teach_34 ⟨e2, ea2, tk2, dp2, lr2, kd2, fr2, me2, va2, wo2, Or.inl ⟨fun z => h30 (by rw [z]; decide), (hRK.resolve_right (fun z => h30 (by rw [z.1]; decide))).2.1, (hRK.resolve_right (fun z => h30 (by rw [z.1]; decide))).2.2, rfl, rfl⟩⟩

