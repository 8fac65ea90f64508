theorem frX_stp {v : Nat → Int32} {k : Nat} {be le x : Int32} (hk : 6 ≤ k) (hk2 : k < 100) (hv : v k = x) (hx : x < 157) (h : (k = 6 ∧ be = -1) ∨ (6 < k ∧ ¬ be = -1 ∧ frX v (k - 6) = (be, le))) (hy : be = -1 ∨ x < le) : (k + 1 = 6 ∧ nI k = -1) ∨ (6 < k + 1 ∧ ¬ nI k = -1 ∧ frX v (k + 1 - 6) = (nI k, x)) := by
  refine Or.inr ⟨by omega, nI_ne1 (by omega), ?_⟩
  subst hv
  rcases h with ⟨e, -⟩ | ⟨h1, h2, h3⟩
  · subst e
    exact frX_t (by decide) hx
  · refine frX_t hk ?_
    rw [h3]
    rcases hy with q | q
    · exact absurd q h2
    · exact q
theorem frX_stn {v : Nat → Int32} {k : Nat} {be le x : Int32} (hk : 6 ≤ k) (hv : v k = x) (h : (k = 6 ∧ be = -1) ∨ (6 < k ∧ ¬ be = -1 ∧ frX v (k - 6) = (be, le))) (hb : ¬ be = -1) (hy : ¬ x < le) : (k + 1 = 6 ∧ be = -1) ∨ (6 < k + 1 ∧ ¬ be = -1 ∧ frX v (k + 1 - 6) = (be, le)) := by
  subst hv
  rcases h with ⟨-, e⟩ | ⟨h1, h2, h3⟩
  · exact absurd e hb
  · refine Or.inr ⟨by omega, h2, ?_⟩
    rw [frX_f hk (by rw [h3]; exact hy), h3]
theorem frX_end {v : Nat → Int32} {n : Nat} {be le : Int32} (h1 : 1 ≤ n) (h2 : n ≤ 13) (h : (20 - n = 6 ∧ be = -1) ∨ (6 < 20 - n ∧ ¬ be = -1 ∧ frX v (20 - n - 6) = (be, le))) : frX v (14 - n) = (be, le) := by
  rcases h with ⟨e, -⟩ | ⟨-, -, h⟩
  · omega
  · rw [← h, show 20 - n - 6 = 14 - n by omega]
theorem iw_fr {v : Nat → Int32} {h : Nat} {p : Int32 × Int32} (hp : ¬ 157 < p.2) : ∀ c, iwX v h p c = if (frX v c).2 < p.2 then (nI h, (frX v c).2) else p
  | 0 => by rw [iwX, frX, if_neg hp]
  | c + 1 => by
    rw [iwX, iw_fr hp c, frX]
    by_cases a : (frX v c).2 < p.2
    · rw [if_pos a]
      by_cases b : v (6 + c) < (frX v c).2
      · rw [if_pos b, if_pos b, if_pos (show v (6 + c) < p.2 from Int32.lt_trans b a)]
      · rw [if_neg b, if_neg b, if_pos a]
    · rw [if_neg a]
      by_cases b : v (6 + c) < p.2
      · have d : v (6 + c) < (frX v c).2 := Int32.lt_of_lt_of_le b (Int32.not_lt.mp a)
        rw [if_pos b, if_pos d, if_pos b]
      · rw [if_neg b]
        by_cases d : v (6 + c) < (frX v c).2
        · rw [if_pos d, if_neg b]
        · rw [if_neg d, if_neg a]
theorem al_157 {N : Nat} {P H F T : Nat → Int32} (hN : N ≤ 12) : alM N P H F T < 157 := by
  obtain ⟨t, h1, h2⟩ := al_nat (P := P) (H := H) (F := F) (T := T) hN
  rw [h2]
  exact nI_lt (a := t) (b := 157) (by omega) (by decide)
theorem hrsI {q : Int32} (h : inX q 1 13 = true) : ∃ n, 1 ≤ n ∧ n ≤ 13 ∧ q = nI n := by
  refine hours_ex ?_
  simp only [inX, Bool.and_eq_true, Bool.not_eq_true', decide_eq_false_iff_not] at h
  exact not_or.mpr h
theorem ow_s {v : Nat → Nat → Int32} {c h : Nat} {p : Int32 × Int32} {be le : Int32} (h1 : owX v c p h = (be, le)) (h2 : le < 157) : owX v c p (h + 1) = if (frX (v h) c).2 < le then (nI h, (frX (v h) c).2) else (be, le) := by
  rw [owX, h1, iw_fr (fun e => Int32.lt_asymm e h2)]
set_option maxRecDepth 100000 in
set_option maxHeartbeats 4000000 in
theorem c_X10_fairest1 {Z : GZ} {l : Launch} {mo pl : Nat → Nat} {N : Nat} {th sz ea tk dp lr dy ca ls mn : Int32} {kn : Bool} {hn va : Nat → Int64} {ha hh dz wh bg en od wi al tp kd fr me wo pc ht fs la kh kf kl sh dk sk : Nat → Int32} {h n : Nat} (hN : N ≤ 12) (hhN : h < N) (hn1 : 1 ≤ n) (hn13 : n ≤ 13) (hP : Pok N pc) (hFT : FTok N fs la)  : Ct Z l yX10_fairest cX10_fairest 10 (some .int) (rmK 10) [.ref (mo 0), .int (nI h), .int (nI n), .int 1] (wMd Z mo pl th sz ea tk dp lr dy ca kn tp kd fr me va wo pc ht fs la kh kf kl sh dk sk ++ wPl Z pl (nI N) ls mn hn ha hh dz wh bg en od wi al) (fun v w => ∃ sh2 dk2, v = some (.int (frX (fcV N pc ht fs la n h) (14 - n)).2) ∧ w = (wMd Z mo pl th sz ea tk dp lr dy ca false tp kd fr me va wo pc ht fs la kh kf kl sh2 dk2 sk ++ wPl Z pl (nI N) ls mn hn ha hh dz wh bg en od wi al)) := by
  refine Ct.ofJ (own := RX10) (nm := "fairest") (lv0 := [(0, .ref (mo 0)), (1, .int (nI h)), (2, .int (nI n)), (3, .int 1)]) (by decide) rfl rfl (Nat.le_of_ble_eq_true rfl) rfl (fun X hXl C E => ?_)
  subst hXl
  refine J_aload_n C iX10_fairest_0 rfl rfl ?_
  refine J_get (.ref (mo 9)) 0 C iX10_fairest_1 gf_X10_46 rfl rfl ?_
  refine J_iload_n C iX10_fairest_4 rfl rfl ?_
  refine J_iald 9 C iX10_fairest_5 rfl (vp_in_nI (n := h) (by omega) (by decide)) ?_
  rw [nI_clamp (n := h) (by omega)]
  refine J_istore [(4, .int (fs h)), (0, .ref (mo 0)), (1, .int (nI h)), (2, .int (nI n)), (3, .int 1)] C iX10_fairest_6 (by decide) rfl ?_
  refine J_aload_n C iX10_fairest_8 rfl rfl ?_
  refine J_get (.ref (mo 10)) 0 C iX10_fairest_9 gf_X10_49 rfl rfl ?_
  refine J_iload_n C iX10_fairest_12 rfl rfl ?_
  refine J_iald 10 C iX10_fairest_13 rfl (vp_in_nI (n := h) (by omega) (by decide)) ?_
  rw [nI_clamp (n := h) (by omega)]
  refine J_istore [(5, .int (la h)), (4, .int (fs h)), (0, .ref (mo 0)), (1, .int (nI h)), (2, .int (nI n)), (3, .int 1)] C iX10_fairest_14 (by decide) rfl ?_
  refine J_iconst (-1) C iX10_fairest_16 rfl ?_
  refine J_istore [(6, .int (-1)), (5, .int (la h)), (4, .int (fs h)), (0, .ref (mo 0)), (1, .int (nI h)), (2, .int (nI n)), (3, .int 1)] C iX10_fairest_17 (by decide) rfl ?_
  refine J_iconst 0 C iX10_fairest_19 rfl ?_
  refine J_istore [(7, .int 0), (6, .int (-1)), (5, .int (la h)), (4, .int (fs h)), (0, .ref (mo 0)), (1, .int (nI h)), (2, .int (nI n)), (3, .int 1)] C iX10_fairest_20 (by decide) rfl ?_
  refine J_bipush 6 C iX10_fairest_22 rfl ?_
  refine J_istore [(8, .int 6), (7, .int 0), (6, .int (-1)), (5, .int (la h)), (4, .int (fs h)), (0, .ref (mo 0)), (1, .int (nI h)), (2, .int (nI n)), (3, .int 1)] C iX10_fairest_24 (by decide) rfl ?_
  refine J_lvm [(6, .int (-1)), (7, .int 0), (8, .int 6), (5, .int (la h)), (4, .int (fs h)), (0, .ref (mo 0)), (1, .int (nI h)), (2, .int (nI n)), (3, .int 1)] (by rfl) ?_
  refine J_forI (σ := Int32 × Int32 × Bool × (Nat → Int32) × (Nat → Int32) × (Nat → Int32) × (Nat → Int32)) (fun k q => [(6, .int q.1), (7, .int q.2.1), (8, .int (nI k)), (5, .int (la h)), (4, .int (fs h)), (0, .ref (mo 0)), (1, .int (nI h)), (2, .int (nI n)), (3, .int 1)]) (fun k q => (wMd Z mo pl th sz ea tk dp lr dy ca q.2.2.1 tp kd fr me va wo pc ht q.2.2.2.2.2.1 q.2.2.2.2.2.2 kh kf kl q.2.2.2.1 q.2.2.2.2.1 sk ++ wPl Z pl (nI N) ls mn hn ha hh dz wh bg en od wi al)) (fun k q => ((k = 6 ∧ q.1 = -1) ∨ (6 < k ∧ ¬ q.1 = -1 ∧ frX (fcV N pc ht fs la n h) (k - 6) = (q.1, q.2.1))) ∧ (∀ x, upd q.2.2.2.2.2.1 h x = upd fs h x) ∧ (∀ x, upd q.2.2.2.2.2.2 h x = upd la h x)) (20 - n) 6 ((-1), 0, kn, sh, dk, fs, la) (by omega) ⟨Or.inl ⟨rfl, rfl⟩, fun _ => rfl, fun _ => rfl⟩ ?_ ?_
  · rintro ⟨be5, le5, kn5, sh5, dk5, fs5, la5⟩ hI
    dsimp only at hI ⊢
    refine J_iload C iX10_fairest_26 rfl ?_
    refine J_iload_n C iX10_fairest_28 rfl rfl ?_
    refine J_iadd C iX10_fairest_29 ?_
    rw [show (nI (20 - n)) + (nI n) = nI ((20 - n) + n) from nI_add _ _]
    refine J_iconst 1 C iX10_fairest_30 rfl ?_
    refine J_isub C iX10_fairest_31 ?_
    rw [show (nI ((20 - n) + n)) - 1 = nI (((20 - n) + n) - 1) from (pk_sub (b := 1) (by omega))]
    refine J_bipush 18 C iX10_fairest_32 rfl ?_
    refine J_icmpgt 86 C iX10_fairest_34 rfl (fun h34 => ?_) (fun h34 => absurd (nI_lt (a := 18) (b := 20 - n + n - 1) (by omega) (by omega)) h34)
    refine J_aload_n C iX10_fairest_86 rfl rfl ?_
    refine J_iload_n C iX10_fairest_87 rfl rfl ?_
    refine J_iload C iX10_fairest_88 rfl ?_
    refine J_iload C iX10_fairest_90 rfl ?_
    refine J_cVb (As := [.int (nI h), .int (fs h), .int (la h)]) (st := []) (rc2 := (rmK 10).cells) (rs2 := (rmK 10).slots) C iX10_fairest_92 lm_X10_148 yc_X10_curfew yv_X10_curfew (c_X10_curfew (by omega)) (q0 := 0) rfl rfl rfl [] [] rfl rfl (rmK_le (by omega) (by decide)) (Nat.le_of_ble_eq_true rfl) rfl rfl ?_
    rintro _ _ ⟨rfl, rfl⟩
    refine J_st ([]) rfl ?_
    refine J_ws (wMd Z mo pl th sz ea tk dp lr dy ca false tp kd fr me va wo pc ht (upd fs5 h (fs h)) (upd la5 h (la h)) kh kf kl sh5 dk5 sk ++ wPl Z pl (nI N) ls mn hn ha hh dz wh bg en od wi al) rfl ?_
    rw [hI.2.1, hI.2.2, upd_self rfl, upd_self rfl]
    have hend := frX_end hn1 hn13 hI.1
    refine J_iload_n C iX10_fairest_95 rfl rfl ?_
    refine J_ifeq 104 C iX10_fairest_96 rfl (fun h96 => absurd h96 (by decide)) (fun h96 => ?_)
    refine J_iload C iX10_fairest_99 rfl ?_
    refine J_goto 106 C iX10_fairest_101 rfl ?_
    exact J_iret C E iX10_fairest_106 ⟨sh5, dk5, by rw [hend], rfl⟩
  · rintro k ⟨be5, le5, kn5, sh5, dk5, fs5, la5⟩ hk0 hk hI ih
    dsimp only at hI ⊢
    refine J_iload C iX10_fairest_26 rfl ?_
    refine J_iload_n C iX10_fairest_28 rfl rfl ?_
    refine J_iadd C iX10_fairest_29 ?_
    rw [show (nI k) + (nI n) = nI (k + n) from nI_add _ _]
    refine J_iconst 1 C iX10_fairest_30 rfl ?_
    refine J_isub C iX10_fairest_31 ?_
    rw [show (nI (k + n)) - 1 = nI ((k + n) - 1) from (pk_sub (b := 1) (by omega))]
    refine J_bipush 18 C iX10_fairest_32 rfl ?_
    refine J_icmpgt 86 C iX10_fairest_34 rfl (fun h34 => absurd h34 (nI_nlt (a := 18) (b := k + n - 1) (by omega) (by omega))) (fun h34 => ?_)
    refine J_aload_n C iX10_fairest_37 rfl rfl ?_
    refine J_iload_n C iX10_fairest_38 rfl rfl ?_
    refine J_iload C iX10_fairest_39 rfl ?_
    refine J_iload C iX10_fairest_41 rfl ?_
    refine J_iload_n C iX10_fairest_43 rfl rfl ?_
    refine J_iadd C iX10_fairest_44 ?_
    rw [show (nI k) + (nI n) = nI (k + n) from nI_add _ _]
    refine J_iconst 1 C iX10_fairest_45 rfl ?_
    refine J_isub C iX10_fairest_46 ?_
    rw [show (nI (k + n)) - 1 = nI ((k + n) - 1) from (pk_sub (b := 1) (by omega))]
    refine J_cVb (As := [.int (nI h), .int (nI k), .int (nI ((k + n) - 1))]) (st := []) (rc2 := (rmK 10).cells) (rs2 := (rmK 10).slots) C iX10_fairest_47 lm_X10_148 yc_X10_curfew yv_X10_curfew (c_X10_curfew (by omega)) (q0 := 0) rfl rfl rfl [] [] rfl rfl (rmK_le (by omega) (by decide)) (Nat.le_of_ble_eq_true rfl) rfl rfl ?_
    rintro _ _ ⟨rfl, rfl⟩
    refine J_st ([]) rfl ?_
    refine J_ws (wMd Z mo pl th sz ea tk dp lr dy ca false tp kd fr me va wo pc ht (upd fs5 h (nI k)) (upd la5 h (nI ((k + n) - 1))) kh kf kl sh5 dk5 sk ++ wPl Z pl (nI N) ls mn hn ha hh dz wh bg en od wi al) rfl ?_
    refine J_aload_n C iX10_fairest_50 rfl rfl ?_
    refine J_cVb (As := []) (st := []) (rc2 := (rmK 10).cells) (rs2 := (rmK 10).slots) C iX10_fairest_51 lm_X10_389 yc_X10_allLost yv_X10_allLost (c_X10_allLost hN (fun e => absurd e (by decide))) (q0 := 0) rfl rfl rfl [] [] rfl rfl (rmK_le (by omega) (by decide)) (Nat.le_of_ble_eq_true rfl) rfl rfl ?_
    rintro _ _ ⟨kn_1, sh_1, dk_1, rfl, rfl, okk1⟩
    refine J_st (.int (alM N pc ht (upd fs5 h (nI k)) (upd la5 h (nI ((k + n) - 1)))) :: []) rfl ?_
    refine J_ws (wMd Z mo pl th sz ea tk dp lr dy ca kn_1 tp kd fr me va wo pc ht (upd fs5 h (nI k)) (upd la5 h (nI ((k + n) - 1))) kh kf kl sh_1 dk_1 sk ++ wPl Z pl (nI N) ls mn hn ha hh dz wh bg en od wi al) rfl ?_
    have hv : (fcV N pc ht fs la n h) k = alM N pc ht (upd fs5 h (nI k)) (upd la5 h (nI ((k + n) - 1))) := by rw [hI.2.1, hI.2.2]; exact (al_eq hP (hFT.up (fun e => absurd e (nI_ne1 (by omega))))).symm
    have hx := al_157 (P := pc) (H := ht) (F := upd fs5 h (nI k)) (T := upd la5 h (nI ((k + n) - 1))) hN
    refine J_istore [(9, .int (alM N pc ht (upd fs5 h (nI k)) (upd la5 h (nI ((k + n) - 1))))), (6, .int be5), (7, .int le5), (8, .int (nI k)), (5, .int (la h)), (4, .int (fs h)), (0, .ref (mo 0)), (1, .int (nI h)), (2, .int (nI n)), (3, .int 1)] C iX10_fairest_54 (by decide) rfl ?_
    refine J_iload C iX10_fairest_56 rfl ?_
    refine J_iconst (-1) C iX10_fairest_58 rfl ?_
    refine J_icmpeq 72 C iX10_fairest_59 rfl (fun h59 => ?_) (fun h59 => ?_)
    · refine J_iload C iX10_fairest_72 rfl ?_
      refine J_istore [(6, .int (nI k)), (9, .int (alM N pc ht (upd fs5 h (nI k)) (upd la5 h (nI ((k + n) - 1))))), (7, .int le5), (8, .int (nI k)), (5, .int (la h)), (4, .int (fs h)), (0, .ref (mo 0)), (1, .int (nI h)), (2, .int (nI n)), (3, .int 1)] C iX10_fairest_74 (by decide) rfl ?_
      refine J_iload C iX10_fairest_76 rfl ?_
      refine J_istore [(7, .int (alM N pc ht (upd fs5 h (nI k)) (upd la5 h (nI ((k + n) - 1))))), (6, .int (nI k)), (9, .int (alM N pc ht (upd fs5 h (nI k)) (upd la5 h (nI ((k + n) - 1))))), (8, .int (nI k)), (5, .int (la h)), (4, .int (fs h)), (0, .ref (mo 0)), (1, .int (nI h)), (2, .int (nI n)), (3, .int 1)] C iX10_fairest_78 (by decide) rfl ?_
      refine J_iinc ((nI k) + 1) [(8, .int ((nI k) + 1)), (7, .int (alM N pc ht (upd fs5 h (nI k)) (upd la5 h (nI ((k + n) - 1))))), (6, .int (nI k)), (9, .int (alM N pc ht (upd fs5 h (nI k)) (upd la5 h (nI ((k + n) - 1))))), (5, .int (la h)), (4, .int (fs h)), (0, .ref (mo 0)), (1, .int (nI h)), (2, .int (nI n)), (3, .int 1)] C iX10_fairest_80 rfl rfl (by decide) rfl ?_
      rw [show (nI k) + 1 = nI (k + 1) from nI_add _ _]
      refine J_goto 26 C iX10_fairest_83 rfl ?_
      refine J_lvm [(6, .int (nI k)), (7, .int (alM N pc ht (upd fs5 h (nI k)) (upd la5 h (nI ((k + n) - 1))))), (8, .int (nI (k + 1))), (5, .int (la h)), (4, .int (fs h)), (0, .ref (mo 0)), (1, .int (nI h)), (2, .int (nI n)), (3, .int 1)] rfl ?_
      exact ih (nI k, alM N pc ht (upd fs5 h (nI k)) (upd la5 h (nI ((k + n) - 1))), kn_1, sh_1, dk_1, (upd fs5 h (nI k)), (upd la5 h (nI ((k + n) - 1)))) (by dsimp only; exact ⟨frX_stp hk0 (by omega) hv hx hI.1 (Or.inl h59), fun x => by rw [upd_upd]; exact hI.2.1 x, fun x => by rw [upd_upd]; exact hI.2.2 x⟩)
    · refine J_iload C iX10_fairest_62 rfl ?_
      refine J_iload C iX10_fairest_64 rfl ?_
      refine J_icmplt 72 C iX10_fairest_66 rfl (fun h66 => ?_) (fun h66 => ?_)
      · refine J_iload C iX10_fairest_72 rfl ?_
        refine J_istore [(6, .int (nI k)), (9, .int (alM N pc ht (upd fs5 h (nI k)) (upd la5 h (nI ((k + n) - 1))))), (7, .int le5), (8, .int (nI k)), (5, .int (la h)), (4, .int (fs h)), (0, .ref (mo 0)), (1, .int (nI h)), (2, .int (nI n)), (3, .int 1)] C iX10_fairest_74 (by decide) rfl ?_
        refine J_iload C iX10_fairest_76 rfl ?_
        refine J_istore [(7, .int (alM N pc ht (upd fs5 h (nI k)) (upd la5 h (nI ((k + n) - 1))))), (6, .int (nI k)), (9, .int (alM N pc ht (upd fs5 h (nI k)) (upd la5 h (nI ((k + n) - 1))))), (8, .int (nI k)), (5, .int (la h)), (4, .int (fs h)), (0, .ref (mo 0)), (1, .int (nI h)), (2, .int (nI n)), (3, .int 1)] C iX10_fairest_78 (by decide) rfl ?_
        refine J_iinc ((nI k) + 1) [(8, .int ((nI k) + 1)), (7, .int (alM N pc ht (upd fs5 h (nI k)) (upd la5 h (nI ((k + n) - 1))))), (6, .int (nI k)), (9, .int (alM N pc ht (upd fs5 h (nI k)) (upd la5 h (nI ((k + n) - 1))))), (5, .int (la h)), (4, .int (fs h)), (0, .ref (mo 0)), (1, .int (nI h)), (2, .int (nI n)), (3, .int 1)] C iX10_fairest_80 rfl rfl (by decide) rfl ?_
        rw [show (nI k) + 1 = nI (k + 1) from nI_add _ _]
        refine J_goto 26 C iX10_fairest_83 rfl ?_
        refine J_lvm [(6, .int (nI k)), (7, .int (alM N pc ht (upd fs5 h (nI k)) (upd la5 h (nI ((k + n) - 1))))), (8, .int (nI (k + 1))), (5, .int (la h)), (4, .int (fs h)), (0, .ref (mo 0)), (1, .int (nI h)), (2, .int (nI n)), (3, .int 1)] rfl ?_
        exact ih (nI k, alM N pc ht (upd fs5 h (nI k)) (upd la5 h (nI ((k + n) - 1))), kn_1, sh_1, dk_1, (upd fs5 h (nI k)), (upd la5 h (nI ((k + n) - 1)))) (by dsimp only; exact ⟨frX_stp hk0 (by omega) hv hx hI.1 (Or.inr h66), fun x => by rw [upd_upd]; exact hI.2.1 x, fun x => by rw [upd_upd]; exact hI.2.2 x⟩)
      · refine J_goto 80 C iX10_fairest_69 rfl ?_
        refine J_iinc ((nI k) + 1) [(8, .int ((nI k) + 1)), (9, .int (alM N pc ht (upd fs5 h (nI k)) (upd la5 h (nI ((k + n) - 1))))), (6, .int be5), (7, .int le5), (5, .int (la h)), (4, .int (fs h)), (0, .ref (mo 0)), (1, .int (nI h)), (2, .int (nI n)), (3, .int 1)] C iX10_fairest_80 rfl rfl (by decide) rfl ?_
        rw [show (nI k) + 1 = nI (k + 1) from nI_add _ _]
        refine J_goto 26 C iX10_fairest_83 rfl ?_
        refine J_lvm [(6, .int be5), (7, .int le5), (8, .int (nI (k + 1))), (5, .int (la h)), (4, .int (fs h)), (0, .ref (mo 0)), (1, .int (nI h)), (2, .int (nI n)), (3, .int 1)] rfl ?_
        exact ih (be5, le5, kn_1, sh_1, dk_1, (upd fs5 h (nI k)), (upd la5 h (nI ((k + n) - 1)))) (by dsimp only; exact ⟨frX_stn hk0 hv hI.1 h59 h66, fun x => by rw [upd_upd]; exact hI.2.1 x, fun x => by rw [upd_upd]; exact hI.2.2 x⟩)

set_option maxRecDepth 100000 in
set_option maxHeartbeats 4000000 in
theorem c_X10_fairest0 {Z : GZ} {l : Launch} {mo pl : Nat → Nat} {N : Nat} {th sz ea tk dp lr dy ca ls mn : Int32} {kn : Bool} {hn va : Nat → Int64} {ha hh dz wh bg en od wi al tp kd fr me wo pc ht fs la kh kf kl sh dk sk : Nat → Int32} {h n : Nat} (hN : N ≤ 12) (hhN : h < N) (hn1 : 1 ≤ n) (hn13 : n ≤ 13) (hP : Pok N pc) (hFT : FTok N fs la)  : Ct Z l yX10_fairest cX10_fairest 10 (some .int) (rmK 10) [.ref (mo 0), .int (nI h), .int (nI n), .int 0] (wMd Z mo pl th sz ea tk dp lr dy ca kn tp kd fr me va wo pc ht fs la kh kf kl sh dk sk ++ wPl Z pl (nI N) ls mn hn ha hh dz wh bg en od wi al) (fun v w => ∃ sh2 dk2, v = some (.int (frX (fcV N pc ht fs la n h) (14 - n)).1) ∧ w = (wMd Z mo pl th sz ea tk dp lr dy ca false tp kd fr me va wo pc ht fs la kh kf kl sh2 dk2 sk ++ wPl Z pl (nI N) ls mn hn ha hh dz wh bg en od wi al)) := by
  refine Ct.ofJ (own := RX10) (nm := "fairest") (lv0 := [(0, .ref (mo 0)), (1, .int (nI h)), (2, .int (nI n)), (3, .int 0)]) (by decide) rfl rfl (Nat.le_of_ble_eq_true rfl) rfl (fun X hXl C E => ?_)
  subst hXl
  refine J_aload_n C iX10_fairest_0 rfl rfl ?_
  refine J_get (.ref (mo 9)) 0 C iX10_fairest_1 gf_X10_46 rfl rfl ?_
  refine J_iload_n C iX10_fairest_4 rfl rfl ?_
  refine J_iald 9 C iX10_fairest_5 rfl (vp_in_nI (n := h) (by omega) (by decide)) ?_
  rw [nI_clamp (n := h) (by omega)]
  refine J_istore [(4, .int (fs h)), (0, .ref (mo 0)), (1, .int (nI h)), (2, .int (nI n)), (3, .int 0)] C iX10_fairest_6 (by decide) rfl ?_
  refine J_aload_n C iX10_fairest_8 rfl rfl ?_
  refine J_get (.ref (mo 10)) 0 C iX10_fairest_9 gf_X10_49 rfl rfl ?_
  refine J_iload_n C iX10_fairest_12 rfl rfl ?_
  refine J_iald 10 C iX10_fairest_13 rfl (vp_in_nI (n := h) (by omega) (by decide)) ?_
  rw [nI_clamp (n := h) (by omega)]
  refine J_istore [(5, .int (la h)), (4, .int (fs h)), (0, .ref (mo 0)), (1, .int (nI h)), (2, .int (nI n)), (3, .int 0)] C iX10_fairest_14 (by decide) rfl ?_
  refine J_iconst (-1) C iX10_fairest_16 rfl ?_
  refine J_istore [(6, .int (-1)), (5, .int (la h)), (4, .int (fs h)), (0, .ref (mo 0)), (1, .int (nI h)), (2, .int (nI n)), (3, .int 0)] C iX10_fairest_17 (by decide) rfl ?_
  refine J_iconst 0 C iX10_fairest_19 rfl ?_
  refine J_istore [(7, .int 0), (6, .int (-1)), (5, .int (la h)), (4, .int (fs h)), (0, .ref (mo 0)), (1, .int (nI h)), (2, .int (nI n)), (3, .int 0)] C iX10_fairest_20 (by decide) rfl ?_
  refine J_bipush 6 C iX10_fairest_22 rfl ?_
  refine J_istore [(8, .int 6), (7, .int 0), (6, .int (-1)), (5, .int (la h)), (4, .int (fs h)), (0, .ref (mo 0)), (1, .int (nI h)), (2, .int (nI n)), (3, .int 0)] C iX10_fairest_24 (by decide) rfl ?_
  refine J_lvm [(6, .int (-1)), (7, .int 0), (8, .int 6), (5, .int (la h)), (4, .int (fs h)), (0, .ref (mo 0)), (1, .int (nI h)), (2, .int (nI n)), (3, .int 0)] (by rfl) ?_
  refine J_forI (σ := Int32 × Int32 × Bool × (Nat → Int32) × (Nat → Int32) × (Nat → Int32) × (Nat → Int32)) (fun k q => [(6, .int q.1), (7, .int q.2.1), (8, .int (nI k)), (5, .int (la h)), (4, .int (fs h)), (0, .ref (mo 0)), (1, .int (nI h)), (2, .int (nI n)), (3, .int 0)]) (fun k q => (wMd Z mo pl th sz ea tk dp lr dy ca q.2.2.1 tp kd fr me va wo pc ht q.2.2.2.2.2.1 q.2.2.2.2.2.2 kh kf kl q.2.2.2.1 q.2.2.2.2.1 sk ++ wPl Z pl (nI N) ls mn hn ha hh dz wh bg en od wi al)) (fun k q => ((k = 6 ∧ q.1 = -1) ∨ (6 < k ∧ ¬ q.1 = -1 ∧ frX (fcV N pc ht fs la n h) (k - 6) = (q.1, q.2.1))) ∧ (∀ x, upd q.2.2.2.2.2.1 h x = upd fs h x) ∧ (∀ x, upd q.2.2.2.2.2.2 h x = upd la h x)) (20 - n) 6 ((-1), 0, kn, sh, dk, fs, la) (by omega) ⟨Or.inl ⟨rfl, rfl⟩, fun _ => rfl, fun _ => rfl⟩ ?_ ?_
  · rintro ⟨be5, le5, kn5, sh5, dk5, fs5, la5⟩ hI
    dsimp only at hI ⊢
    refine J_iload C iX10_fairest_26 rfl ?_
    refine J_iload_n C iX10_fairest_28 rfl rfl ?_
    refine J_iadd C iX10_fairest_29 ?_
    rw [show (nI (20 - n)) + (nI n) = nI ((20 - n) + n) from nI_add _ _]
    refine J_iconst 1 C iX10_fairest_30 rfl ?_
    refine J_isub C iX10_fairest_31 ?_
    rw [show (nI ((20 - n) + n)) - 1 = nI (((20 - n) + n) - 1) from (pk_sub (b := 1) (by omega))]
    refine J_bipush 18 C iX10_fairest_32 rfl ?_
    refine J_icmpgt 86 C iX10_fairest_34 rfl (fun h34 => ?_) (fun h34 => absurd (nI_lt (a := 18) (b := 20 - n + n - 1) (by omega) (by omega)) h34)
    refine J_aload_n C iX10_fairest_86 rfl rfl ?_
    refine J_iload_n C iX10_fairest_87 rfl rfl ?_
    refine J_iload C iX10_fairest_88 rfl ?_
    refine J_iload C iX10_fairest_90 rfl ?_
    refine J_cVb (As := [.int (nI h), .int (fs h), .int (la h)]) (st := []) (rc2 := (rmK 10).cells) (rs2 := (rmK 10).slots) C iX10_fairest_92 lm_X10_148 yc_X10_curfew yv_X10_curfew (c_X10_curfew (by omega)) (q0 := 0) rfl rfl rfl [] [] rfl rfl (rmK_le (by omega) (by decide)) (Nat.le_of_ble_eq_true rfl) rfl rfl ?_
    rintro _ _ ⟨rfl, rfl⟩
    refine J_st ([]) rfl ?_
    refine J_ws (wMd Z mo pl th sz ea tk dp lr dy ca false tp kd fr me va wo pc ht (upd fs5 h (fs h)) (upd la5 h (la h)) kh kf kl sh5 dk5 sk ++ wPl Z pl (nI N) ls mn hn ha hh dz wh bg en od wi al) rfl ?_
    rw [hI.2.1, hI.2.2, upd_self rfl, upd_self rfl]
    have hend := frX_end hn1 hn13 hI.1
    refine J_iload_n C iX10_fairest_95 rfl rfl ?_
    refine J_ifeq 104 C iX10_fairest_96 rfl (fun h96 => ?_) (fun h96 => absurd (by decide) h96)
    refine J_iload C iX10_fairest_104 rfl ?_
    exact J_iret C E iX10_fairest_106 ⟨sh5, dk5, by rw [hend], rfl⟩
  · rintro k ⟨be5, le5, kn5, sh5, dk5, fs5, la5⟩ hk0 hk hI ih
    dsimp only at hI ⊢
    refine J_iload C iX10_fairest_26 rfl ?_
    refine J_iload_n C iX10_fairest_28 rfl rfl ?_
    refine J_iadd C iX10_fairest_29 ?_
    rw [show (nI k) + (nI n) = nI (k + n) from nI_add _ _]
    refine J_iconst 1 C iX10_fairest_30 rfl ?_
    refine J_isub C iX10_fairest_31 ?_
    rw [show (nI (k + n)) - 1 = nI ((k + n) - 1) from (pk_sub (b := 1) (by omega))]
    refine J_bipush 18 C iX10_fairest_32 rfl ?_
    refine J_icmpgt 86 C iX10_fairest_34 rfl (fun h34 => absurd h34 (nI_nlt (a := 18) (b := k + n - 1) (by omega) (by omega))) (fun h34 => ?_)
    refine J_aload_n C iX10_fairest_37 rfl rfl ?_
    refine J_iload_n C iX10_fairest_38 rfl rfl ?_
    refine J_iload C iX10_fairest_39 rfl ?_
    refine J_iload C iX10_fairest_41 rfl ?_
    refine J_iload_n C iX10_fairest_43 rfl rfl ?_
    refine J_iadd C iX10_fairest_44 ?_
    rw [show (nI k) + (nI n) = nI (k + n) from nI_add _ _]
    refine J_iconst 1 C iX10_fairest_45 rfl ?_
    refine J_isub C iX10_fairest_46 ?_
    rw [show (nI (k + n)) - 1 = nI ((k + n) - 1) from (pk_sub (b := 1) (by omega))]
    refine J_cVb (As := [.int (nI h), .int (nI k), .int (nI ((k + n) - 1))]) (st := []) (rc2 := (rmK 10).cells) (rs2 := (rmK 10).slots) C iX10_fairest_47 lm_X10_148 yc_X10_curfew yv_X10_curfew (c_X10_curfew (by omega)) (q0 := 0) rfl rfl rfl [] [] rfl rfl (rmK_le (by omega) (by decide)) (Nat.le_of_ble_eq_true rfl) rfl rfl ?_
    rintro _ _ ⟨rfl, rfl⟩
    refine J_st ([]) rfl ?_
    refine J_ws (wMd Z mo pl th sz ea tk dp lr dy ca false tp kd fr me va wo pc ht (upd fs5 h (nI k)) (upd la5 h (nI ((k + n) - 1))) kh kf kl sh5 dk5 sk ++ wPl Z pl (nI N) ls mn hn ha hh dz wh bg en od wi al) rfl ?_
    refine J_aload_n C iX10_fairest_50 rfl rfl ?_
    refine J_cVb (As := []) (st := []) (rc2 := (rmK 10).cells) (rs2 := (rmK 10).slots) C iX10_fairest_51 lm_X10_389 yc_X10_allLost yv_X10_allLost (c_X10_allLost hN (fun e => absurd e (by decide))) (q0 := 0) rfl rfl rfl [] [] rfl rfl (rmK_le (by omega) (by decide)) (Nat.le_of_ble_eq_true rfl) rfl rfl ?_
    rintro _ _ ⟨kn_1, sh_1, dk_1, rfl, rfl, okk1⟩
    refine J_st (.int (alM N pc ht (upd fs5 h (nI k)) (upd la5 h (nI ((k + n) - 1)))) :: []) rfl ?_
    refine J_ws (wMd Z mo pl th sz ea tk dp lr dy ca kn_1 tp kd fr me va wo pc ht (upd fs5 h (nI k)) (upd la5 h (nI ((k + n) - 1))) kh kf kl sh_1 dk_1 sk ++ wPl Z pl (nI N) ls mn hn ha hh dz wh bg en od wi al) rfl ?_
    have hv : (fcV N pc ht fs la n h) k = alM N pc ht (upd fs5 h (nI k)) (upd la5 h (nI ((k + n) - 1))) := by rw [hI.2.1, hI.2.2]; exact (al_eq hP (hFT.up (fun e => absurd e (nI_ne1 (by omega))))).symm
    have hx := al_157 (P := pc) (H := ht) (F := upd fs5 h (nI k)) (T := upd la5 h (nI ((k + n) - 1))) hN
    refine J_istore [(9, .int (alM N pc ht (upd fs5 h (nI k)) (upd la5 h (nI ((k + n) - 1))))), (6, .int be5), (7, .int le5), (8, .int (nI k)), (5, .int (la h)), (4, .int (fs h)), (0, .ref (mo 0)), (1, .int (nI h)), (2, .int (nI n)), (3, .int 0)] C iX10_fairest_54 (by decide) rfl ?_
    refine J_iload C iX10_fairest_56 rfl ?_
    refine J_iconst (-1) C iX10_fairest_58 rfl ?_
    refine J_icmpeq 72 C iX10_fairest_59 rfl (fun h59 => ?_) (fun h59 => ?_)
    · refine J_iload C iX10_fairest_72 rfl ?_
      refine J_istore [(6, .int (nI k)), (9, .int (alM N pc ht (upd fs5 h (nI k)) (upd la5 h (nI ((k + n) - 1))))), (7, .int le5), (8, .int (nI k)), (5, .int (la h)), (4, .int (fs h)), (0, .ref (mo 0)), (1, .int (nI h)), (2, .int (nI n)), (3, .int 0)] C iX10_fairest_74 (by decide) rfl ?_
      refine J_iload C iX10_fairest_76 rfl ?_
      refine J_istore [(7, .int (alM N pc ht (upd fs5 h (nI k)) (upd la5 h (nI ((k + n) - 1))))), (6, .int (nI k)), (9, .int (alM N pc ht (upd fs5 h (nI k)) (upd la5 h (nI ((k + n) - 1))))), (8, .int (nI k)), (5, .int (la h)), (4, .int (fs h)), (0, .ref (mo 0)), (1, .int (nI h)), (2, .int (nI n)), (3, .int 0)] C iX10_fairest_78 (by decide) rfl ?_
      refine J_iinc ((nI k) + 1) [(8, .int ((nI k) + 1)), (7, .int (alM N pc ht (upd fs5 h (nI k)) (upd la5 h (nI ((k + n) - 1))))), (6, .int (nI k)), (9, .int (alM N pc ht (upd fs5 h (nI k)) (upd la5 h (nI ((k + n) - 1))))), (5, .int (la h)), (4, .int (fs h)), (0, .ref (mo 0)), (1, .int (nI h)), (2, .int (nI n)), (3, .int 0)] C iX10_fairest_80 rfl rfl (by decide) rfl ?_
      rw [show (nI k) + 1 = nI (k + 1) from nI_add _ _]
      refine J_goto 26 C iX10_fairest_83 rfl ?_
      refine J_lvm [(6, .int (nI k)), (7, .int (alM N pc ht (upd fs5 h (nI k)) (upd la5 h (nI ((k + n) - 1))))), (8, .int (nI (k + 1))), (5, .int (la h)), (4, .int (fs h)), (0, .ref (mo 0)), (1, .int (nI h)), (2, .int (nI n)), (3, .int 0)] rfl ?_
      exact ih (nI k, alM N pc ht (upd fs5 h (nI k)) (upd la5 h (nI ((k + n) - 1))), kn_1, sh_1, dk_1, (upd fs5 h (nI k)), (upd la5 h (nI ((k + n) - 1)))) (by dsimp only; exact ⟨frX_stp hk0 (by omega) hv hx hI.1 (Or.inl h59), fun x => by rw [upd_upd]; exact hI.2.1 x, fun x => by rw [upd_upd]; exact hI.2.2 x⟩)
    · refine J_iload C iX10_fairest_62 rfl ?_
      refine J_iload C iX10_fairest_64 rfl ?_
      refine J_icmplt 72 C iX10_fairest_66 rfl (fun h66 => ?_) (fun h66 => ?_)
      · refine J_iload C iX10_fairest_72 rfl ?_
        refine J_istore [(6, .int (nI k)), (9, .int (alM N pc ht (upd fs5 h (nI k)) (upd la5 h (nI ((k + n) - 1))))), (7, .int le5), (8, .int (nI k)), (5, .int (la h)), (4, .int (fs h)), (0, .ref (mo 0)), (1, .int (nI h)), (2, .int (nI n)), (3, .int 0)] C iX10_fairest_74 (by decide) rfl ?_
        refine J_iload C iX10_fairest_76 rfl ?_
        refine J_istore [(7, .int (alM N pc ht (upd fs5 h (nI k)) (upd la5 h (nI ((k + n) - 1))))), (6, .int (nI k)), (9, .int (alM N pc ht (upd fs5 h (nI k)) (upd la5 h (nI ((k + n) - 1))))), (8, .int (nI k)), (5, .int (la h)), (4, .int (fs h)), (0, .ref (mo 0)), (1, .int (nI h)), (2, .int (nI n)), (3, .int 0)] C iX10_fairest_78 (by decide) rfl ?_
        refine J_iinc ((nI k) + 1) [(8, .int ((nI k) + 1)), (7, .int (alM N pc ht (upd fs5 h (nI k)) (upd la5 h (nI ((k + n) - 1))))), (6, .int (nI k)), (9, .int (alM N pc ht (upd fs5 h (nI k)) (upd la5 h (nI ((k + n) - 1))))), (5, .int (la h)), (4, .int (fs h)), (0, .ref (mo 0)), (1, .int (nI h)), (2, .int (nI n)), (3, .int 0)] C iX10_fairest_80 rfl rfl (by decide) rfl ?_
        rw [show (nI k) + 1 = nI (k + 1) from nI_add _ _]
        refine J_goto 26 C iX10_fairest_83 rfl ?_
        refine J_lvm [(6, .int (nI k)), (7, .int (alM N pc ht (upd fs5 h (nI k)) (upd la5 h (nI ((k + n) - 1))))), (8, .int (nI (k + 1))), (5, .int (la h)), (4, .int (fs h)), (0, .ref (mo 0)), (1, .int (nI h)), (2, .int (nI n)), (3, .int 0)] rfl ?_
        exact ih (nI k, alM N pc ht (upd fs5 h (nI k)) (upd la5 h (nI ((k + n) - 1))), kn_1, sh_1, dk_1, (upd fs5 h (nI k)), (upd la5 h (nI ((k + n) - 1)))) (by dsimp only; exact ⟨frX_stp hk0 (by omega) hv hx hI.1 (Or.inr h66), fun x => by rw [upd_upd]; exact hI.2.1 x, fun x => by rw [upd_upd]; exact hI.2.2 x⟩)
      · refine J_goto 80 C iX10_fairest_69 rfl ?_
        refine J_iinc ((nI k) + 1) [(8, .int ((nI k) + 1)), (9, .int (alM N pc ht (upd fs5 h (nI k)) (upd la5 h (nI ((k + n) - 1))))), (6, .int be5), (7, .int le5), (5, .int (la h)), (4, .int (fs h)), (0, .ref (mo 0)), (1, .int (nI h)), (2, .int (nI n)), (3, .int 0)] C iX10_fairest_80 rfl rfl (by decide) rfl ?_
        rw [show (nI k) + 1 = nI (k + 1) from nI_add _ _]
        refine J_goto 26 C iX10_fairest_83 rfl ?_
        refine J_lvm [(6, .int be5), (7, .int le5), (8, .int (nI (k + 1))), (5, .int (la h)), (4, .int (fs h)), (0, .ref (mo 0)), (1, .int (nI h)), (2, .int (nI n)), (3, .int 0)] rfl ?_
        exact ih (be5, le5, kn_1, sh_1, dk_1, (upd fs5 h (nI k)), (upd la5 h (nI ((k + n) - 1)))) (by dsimp only; exact ⟨frX_stn hk0 hv hI.1 h59 h66, fun x => by rw [upd_upd]; exact hI.2.1 x, fun x => by rw [upd_upd]; exact hI.2.2 x⟩)

