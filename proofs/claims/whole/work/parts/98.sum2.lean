set_option maxRecDepth 100000 in
set_option maxHeartbeats 4000000 in
theorem c_X10_sum {Z : GZ} {l : Launch} {mo pl : Nat → Nat} {N : Nat} {th sz ea tk dp lr dy ca ls mn : Int32} {kn : Bool} {hn va : Nat → Int64} {ha hh dz wh bg en od wi al tp kd fr me wo pc ht fs la kh kf kl sh dk sk : Nat → Int32} {y x s0 s1 : Nat} {o g j : Nat → Int32} {b : Bool} (hN : N ≤ 12) (ok : kn = true → LkOk N pc ht fs la sh dk) (hy : y < 16) (hx : x < 3) (hbg : bg (3 * y + x) = nI s0) (hen : en (3 * y + x) = nI s1) (h400 : s1 ≤ 400) (hle : s0 ≤ s1) (hsg : s0 = s1 ∨ Seg o b s0 s1) (hrow : ∀ r, s0 ≤ r → r < s1 → RowS N (od r) (wi r) (al r) (o r) (g r) (j r))  : Ct Z l yX10_sum cX10_sum 6 (some .int) (rmK 8) [.ref (mo 0), .int (nI y), .int (nI x)] (wMd Z mo pl th sz ea tk dp lr dy ca kn tp kd fr me va wo pc ht fs la kh kf kl sh dk sk ++ wPl Z pl (nI N) ls mn hn ha hh dz wh bg en od wi al) (fun v w => ∃ kn2 sh2 dk2 sk2, v = some (.int (if s0 = s1 then 1 else rkX (lfI N dy pc ht fs la) o g j s0 s1)) ∧ w = (wMd Z mo pl th sz ea tk dp lr dy ca kn2 tp kd fr me va wo pc ht fs la kh kf kl sh2 dk2 sk2 ++ wPl Z pl (nI N) ls mn hn ha hh dz wh bg en od wi al) ∧ (kn2 = true → LkOk N pc ht fs la sh2 dk2) ∧ (s0 < s1 → b = true → rkX (lfI N dy pc ht fs la) o g j s0 s1 = 0 ∨ rkX (lfI N dy pc ht fs la) o g j s0 s1 = 1)) := by
  refine Ct.ofJ (own := RX10) (nm := "sum") (lv0 := [(0, .ref (mo 0)), (1, .int (nI y)), (2, .int (nI x))]) (by decide) rfl rfl (Nat.le_of_ble_eq_true rfl) rfl (fun X hXl C E => ?_)
  subst hXl
  refine J_iconst 0 C iX10_sum_0 rfl ?_
  refine J_istore_n [(3, .int 0), (0, .ref (mo 0)), (1, .int (nI y)), (2, .int (nI x))] C iX10_sum_1 rfl (by decide) rfl ?_
  refine J_aload_n C iX10_sum_2 rfl rfl ?_
  refine J_get (.ref (pl 0)) 0 C iX10_sum_3 gf_X10_20 rfl rfl ?_
  refine J_get (.ref (pl 6)) 17 C iX10_sum_6 gf_X10_192 rfl rfl ?_
  refine J_iconst 3 C iX10_sum_9 rfl ?_
  refine J_iload_n C iX10_sum_10 rfl rfl ?_
  refine J_imul C iX10_sum_11 ?_
  refine J_iload_n C iX10_sum_12 rfl rfl ?_
  refine J_iadd C iX10_sum_13 ?_
  refine J_iald 23 C iX10_sum_14 rfl (j3_in (by omega) (by omega)) ?_
  rw [j3_nI (by omega) (by omega), hbg]
  refine J_istore [(4, .int (nI s0)), (3, .int 0), (0, .ref (mo 0)), (1, .int (nI y)), (2, .int (nI x))] C iX10_sum_15 (by decide) rfl ?_
  refine J_lvm [(3, .int 0), (4, .int (nI s0)), (0, .ref (mo 0)), (1, .int (nI y)), (2, .int (nI x))] (by rfl) ?_
  refine J_forI (σ := Bool × (Nat → Int32) × (Nat → Int32) × (Nat → Int32) × (List Int32) × (List Bool)) (fun k q => [(3, .int (nI q.2.2.2.2.1.length)), (4, .int (nI k)), (0, .ref (mo 0)), (1, .int (nI y)), (2, .int (nI x))]) (fun k q => (wMd Z mo pl th sz ea tk dp lr dy ca q.1 tp kd fr me va wo pc ht fs la kh kf kl q.2.1 q.2.2.1 q.2.2.2.1 ++ wPl Z pl (nI N) ls mn hn ha hh dz wh bg en od wi al)) (fun k q => (q.1 = true → LkOk N pc ht fs la q.2.1 q.2.2.1) ∧ SkL q.2.2.2.1 q.2.2.2.2.1 ∧ TyL q.2.2.2.2.2 q.2.2.2.2.1 ∧ q.2.2.2.2.1.length + s0 ≤ k ∧ (s0 < s1 → tyR o k (s1 - k) q.2.2.2.2.2 = some [b]) ∧ evL (lfI N dy pc ht fs la) o g j k (s1 - k) q.2.2.2.2.1 = evL (lfI N dy pc ht fs la) o g j s0 (s1 - s0) []) s1 s0 (kn, sh, dk, sk, [], []) (by omega) ⟨ok, trivial, trivial, by simp, fun h => (hsg.resolve_left (by omega)).ty [], rfl⟩ ?_ ?_
  · rintro ⟨kn5, sh5, dk5, sk5, xs5, ts5⟩ hI
    dsimp only at hI ⊢
    refine J_iload C iX10_sum_17 rfl ?_
    refine J_aload_n C iX10_sum_19 rfl rfl ?_
    refine J_get (.ref (pl 0)) 0 C iX10_sum_20 gf_X10_20 rfl rfl ?_
    refine J_get (.ref (pl 7)) 17 C iX10_sum_23 gf_X10_195 rfl rfl ?_
    refine J_iconst 3 C iX10_sum_26 rfl ?_
    refine J_iload_n C iX10_sum_27 rfl rfl ?_
    refine J_imul C iX10_sum_28 ?_
    refine J_iload_n C iX10_sum_29 rfl rfl ?_
    refine J_iadd C iX10_sum_30 ?_
    refine J_iald 24 C iX10_sum_31 rfl (j3_in (by omega) (by omega)) ?_
    rw [j3_nI (by omega) (by omega), hen]
    refine J_icmpge 184 C iX10_sum_32 rfl (fun h32 => ?_) (fun h32 => absurd (nI_le (Nat.le_refl s1) (by omega)) h32)
    by_cases hz : s0 = s1
    · have hx0 : xs5 = [] := by have := hI.2.2.2.1; cases xs5 with | nil => rfl | cons x r => (simp only [List.length_cons] at this; omega)
      subst hx0
      refine J_lvm [(3, .int 0), (4, .int (nI s1)), (0, .ref (mo 0)), (1, .int (nI y)), (2, .int (nI x))] (by rfl) ?_
      refine J_iload_n C iX10_sum_184 rfl rfl ?_
      refine J_ifne 192 C iX10_sum_185 rfl (fun h185 => absurd (by decide) h185) (fun h185 => ?_)
      refine J_iconst 1 C iX10_sum_188 rfl ?_
      refine J_goto 198 C iX10_sum_189 rfl ?_
      exact J_iret C E iX10_sum_198 ⟨kn5, sh5, dk5, sk5, by rw [if_pos hz], rfl, hI.1, fun h => absurd hz (by omega)⟩
    · have ht9 := hI.2.2.2.2.1 (by omega)
      rw [Nat.sub_self] at ht9
      obtain ⟨x9, hx9, hs9, h01⟩ := ty_end ht9 hI.2.2.1 hI.2.1
      subst hx9
      refine J_lvm [(3, .int 1), (4, .int (nI s1)), (0, .ref (mo 0)), (1, .int (nI y)), (2, .int (nI x))] (by rfl) ?_
      refine J_iload_n C iX10_sum_184 rfl rfl ?_
      refine J_ifne 192 C iX10_sum_185 rfl (fun h185 => ?_) (fun h185 => absurd h185 (by decide))
      refine J_aload_n C iX10_sum_192 rfl rfl ?_
      refine J_get (.ref (mo 16)) 0 C iX10_sum_193 gf_X10_67 rfl rfl ?_
      refine J_iconst 0 C iX10_sum_196 rfl ?_
      refine J_iald 16 C iX10_sum_197 rfl (vp_in_nI (n := 0) (by omega) (by decide)) ?_
      rw [show Int32.toNatClampNeg 0 = 0 from rfl]
      exact J_iret C E iX10_sum_198 ⟨kn5, sh5, dk5, sk5, by rw [if_neg hz, (by have e9 := hI.2.2.2.2.2; rw [Nat.sub_self] at e9; rw [rkX, ← e9]; rfl : rkX (lfI N dy pc ht fs la) o g j s0 s1 = x9), hs9], rfl, hI.1, fun _ hb => by rw [(by have e9 := hI.2.2.2.2.2; rw [Nat.sub_self] at e9; rw [rkX, ← e9]; rfl : rkX (lfI N dy pc ht fs la) o g j s0 s1 = x9)]; exact h01 hb⟩
  · rintro k ⟨kn5, sh5, dk5, sk5, xs5, ts5⟩ hk0 hk hI ih
    dsimp only at hI ⊢
    refine J_iload C iX10_sum_17 rfl ?_
    refine J_aload_n C iX10_sum_19 rfl rfl ?_
    refine J_get (.ref (pl 0)) 0 C iX10_sum_20 gf_X10_20 rfl rfl ?_
    refine J_get (.ref (pl 7)) 17 C iX10_sum_23 gf_X10_195 rfl rfl ?_
    refine J_iconst 3 C iX10_sum_26 rfl ?_
    refine J_iload_n C iX10_sum_27 rfl rfl ?_
    refine J_imul C iX10_sum_28 ?_
    refine J_iload_n C iX10_sum_29 rfl rfl ?_
    refine J_iadd C iX10_sum_30 ?_
    refine J_iald 24 C iX10_sum_31 rfl (j3_in (by omega) (by omega)) ?_
    rw [j3_nI (by omega) (by omega), hen]
    refine J_icmpge 184 C iX10_sum_32 rfl (fun h32 => absurd h32 (nI_ge hk (by omega))) (fun h32 => ?_)
    obtain ⟨c, hc, ho, hod, r0, rn, r6⟩ := hrow k hk0 hk
    obtain ⟨t2, hty1, hty2⟩ := tyR_s hk (hI.2.2.2.2.1 (by omega))
    rw [ho, nI_clamp (by omega)] at hty1
    rcases c23 hc with rfl | rfl | rfl | rfl | rfl | rfl | rfl | rfl | rfl | rfl | rfl | rfl | rfl | rfl | rfl | rfl | rfl | rfl | rfl | rfl | rfl | rfl | rfl
    · exact sum_b0 C hN hy hx hk0 hk h400 hI ho hod r0 rn r6 hty1 hty2 ih
    · exact sum_b1 C hN hy hx hk0 hk h400 hI ho hod r0 rn r6 hty1 hty2 ih
    · exact sum_b2 C hN hy hx hk0 hk h400 hI ho hod r0 rn r6 hty1 hty2 ih
    · exact sum_b3 C hN hy hx hk0 hk h400 hI ho hod r0 rn r6 hty1 hty2 ih
    · exact sum_b4 C hN hy hx hk0 hk h400 hI ho hod r0 rn r6 hty1 hty2 ih
    · exact sum_b5 C hN hy hx hk0 hk h400 hI ho hod r0 rn r6 hty1 hty2 ih
    · exact sum_b6 C hN hy hx hk0 hk h400 hI ho hod r0 rn r6 hty1 hty2 ih
    · exact sum_b7 C hN hy hx hk0 hk h400 hI ho hod r0 rn r6 hty1 hty2 ih
    · exact sum_b8 C hN hy hx hk0 hk h400 hI ho hod r0 rn r6 hty1 hty2 ih
    · exact sum_b9 C hN hy hx hk0 hk h400 hI ho hod r0 rn r6 hty1 hty2 ih
    · exact sum_b10 C hN hy hx hk0 hk h400 hI ho hod r0 rn r6 hty1 hty2 ih
    · exact sum_b11 C hN hy hx hk0 hk h400 hI ho hod r0 rn r6 hty1 hty2 ih
    · exact sum_b12 C hN hy hx hk0 hk h400 hI ho hod r0 rn r6 hty1 hty2 ih
    · exact sum_b13 C hN hy hx hk0 hk h400 hI ho hod r0 rn r6 hty1 hty2 ih
    · exact sum_b14 C hN hy hx hk0 hk h400 hI ho hod r0 rn r6 hty1 hty2 ih
    · exact sum_b15 C hN hy hx hk0 hk h400 hI ho hod r0 rn r6 hty1 hty2 ih
    · exact sum_b16 C hN hy hx hk0 hk h400 hI ho hod r0 rn r6 hty1 hty2 ih
    · exact sum_b17 C hN hy hx hk0 hk h400 hI ho hod r0 rn r6 hty1 hty2 ih
    · exact sum_b18 C hN hy hx hk0 hk h400 hI ho hod r0 rn r6 hty1 hty2 ih
    · exact sum_b19 C hN hy hx hk0 hk h400 hI ho hod r0 rn r6 hty1 hty2 ih
    · exact sum_b20 C hN hy hx hk0 hk h400 hI ho hod r0 rn r6 hty1 hty2 ih
    · exact sum_b21 C hN hy hx hk0 hk h400 hI ho hod r0 rn r6 hty1 hty2 ih
    · exact sum_b22 C hN hy hx hk0 hk h400 hI ho hod r0 rn r6 hty1 hty2 ih

