theorem upd_s {f : Nat → Int32} {k : Nat} {x : Int32} : upd f k x k = x := by simp [upd]
theorem upd_n {f : Nat → Int32} {k j : Nat} {x : Int32} (h : j ≠ k) : upd f k x j = f j := by simp [upd, h]
theorem upd_eq {f : Nat → Int32} {k : Nat} {x : Int32} (h : f k = x) : upd f k x = f := by
  funext j
  by_cases e : j = k
  · subst e; rw [upd_s, h]
  · rw [upd_n e]
def shG (pi pj : Int32) (wj wi : Int32 → Int32) : Int32 := if pi - pj = 0 then 0 else fhAcc wj wi (pi - pj) 6
def wlF (H F T : Nat → Int32) (i : Nat) (hr : Int32) : Int32 := if ¬ hr < F i ∧ ¬ T i < hr then 0 else H i
/-- the hours at which j shades i -/
def shH (P H F T : Nat → Int32) (i j : Nat) : Int32 := shG (P i) (P j) (wlF H F T j) (wlF H F T i)
def dkG (N : Nat) (P H F T : Nat → Int32) (i : Nat) : Int32 := orN (fun o => shH P H F T i o) N
def csG (N : Nat) (P H F T : Nat → Int32) (i : Nat) : Int32 := sumN (fun o => bitC (shH P H F T o i)) N
def laG (N : Nat) (P H F T : Nat → Int32) : Int32 := sumN (fun i => bitC (dkG N P H F T i)) N
theorem gF_eq {N i j : Nat} (hi : i < N) (hj : j < N) (hN : N ≤ 12) (P H F T : Nat → Int32) : gF N P H F T i j = shH P H F T i j := by
  have e : ∀ k, k < N → wallF (nI N) H F T (nI k) = wlF H F T k := fun k hk => funext fun hr => wallF_nI hk hN H F T hr
  rw [gF, fhF, stAt_nI hi hN, stAt_nI hj hN, e i hi, e j hj, shH, shG]
/-- what a street keeps is what its houses say -/
def StOk (N : Nat) (P H F T : Nat → Int32) (li : Int32) (S D E : Nat → Int32) : Prop :=
  (∀ i j, i < N → j < N → S (i * 12 + j) = shH P H F T i j) ∧ (∀ i, i < N → D i = dkG N P H F T i) ∧ (∀ i, i < N → E i = csG N P H F T i) ∧ li = laG N P H F T
theorem darkF_ok {N : Nat} {P H F T S : Nat → Int32} (hS : ∀ i j, i < N → j < N → S (i * 12 + j) = shH P H F T i j) {i : Nat} (hi : i < N) : darkF N S i = dkG N P H F T i := orN_cong (fun o ho => hS i o hi ho)
theorem stok_add {N : Nat} {P H F T S D E : Nat → Int32} (hS : ∀ i j, i < N → j < N → S (i * 12 + j) = shH P H F T i j) : StOk N P H F T (lostF N S N) S (fillN (darkF N S) D N) (fillN (castF N S) E N) := by
  refine ⟨hS, fun i hi => ?_, fun i hi => ?_, ?_⟩
  · rw [fillN_in hi]; exact darkF_ok hS hi
  · rw [fillN_in hi]; exact sumN_cong (fun o ho => by rw [hS o i ho hi])
  · exact sumN_cong (fun i hi => by rw [darkF_ok hS hi])
theorem ren_at {g : Nat → Nat → Int32} {S : Nat → Int32} {h i j : Nat} (hh : h < 12) (hi : i < 12) (hj : j < 12) : ∀ k, k ≤ 12 → renS g h S k (i * 12 + j) = if (i = h ∧ j < k) ∨ (j = h ∧ i < k) then g i j else S (i * 12 + j)
  | 0, _ => by simp [renS]
  | k + 1, hk => by
    rw [renS]
    by_cases e1 : i * 12 + j = k * 12 + h
    · have e2 : i = k := by omega
      have e3 : j = h := by omega
      subst e2; subst e3
      rw [upd_s, if_pos (Or.inr ⟨rfl, by omega⟩)]
    · rw [upd_n e1]
      by_cases e2 : i * 12 + j = h * 12 + k
      · have e3 : i = h := by omega
        have e4 : j = k := by omega
        subst e3; subst e4
        rw [upd_s, if_pos (Or.inl ⟨rfl, by omega⟩)]
      · rw [upd_n e2, ren_at hh hi hj k (by omega)]
        by_cases c : (i = h ∧ j < k) ∨ (j = h ∧ i < k)
        · rw [if_pos c, if_pos (by omega)]
        · rw [if_neg c, if_neg (by omega)]
theorem shH_off {P H F T P2 H2 F2 T2 : Nat → Int32} {h : Nat} (ha : ∀ i, i ≠ h → P2 i = P i ∧ H2 i = H i ∧ F2 i = F i ∧ T2 i = T i) {i j : Nat} (hi : i ≠ h) (hj : j ≠ h) : shH P2 H2 F2 T2 i j = shH P H F T i j := by
  have e : ∀ k, k ≠ h → wlF H2 F2 T2 k = wlF H F T k := fun k hk => funext fun hr => by
    obtain ⟨-, a2, a3, a4⟩ := ha k hk
    rw [wlF, wlF, a2, a3, a4]
  rw [shH, shH, (ha i hi).1, (ha j hj).1, e i hi, e j hj]
theorem ren_ok {N h : Nat} {P H F T P2 H2 F2 T2 S : Nat → Int32} (hN : N ≤ 12) (hh : h < N) (hS : ∀ i j, i < N → j < N → S (i * 12 + j) = shH P H F T i j) (ha : ∀ i, i ≠ h → P2 i = P i ∧ H2 i = H i ∧ F2 i = F i ∧ T2 i = T i) (i j : Nat) (hi : i < N) (hj : j < N) : renS (gF N P2 H2 F2 T2) h S N (i * 12 + j) = shH P2 H2 F2 T2 i j := by
  rw [ren_at (by omega) (by omega) (by omega) N hN]
  by_cases c : (i = h ∧ j < N) ∨ (j = h ∧ i < N)
  · rw [if_pos c, gF_eq hi hj hN]
  · rw [if_neg c, hS i j hi hj, shH_off ha (by omega) (by omega)]
theorem hl12 : ∀ m, m ≤ 12 → hlF (nI m).toInt64 0 12 = nI m := by
  intro m hm
  have h : ∀ m, m < 13 → hlF (nI m).toInt64 0 12 = nI m := by decide
  exact h m (by omega)
/-- rows filled place by place -/
def beR (g : Nat → Nat → Int32) (k : Nat) (S : Nat → Int32) : Nat → Nat → Int32
  | 0 => S
  | j + 1 => upd (beR g k S j) (k * 12 + j) (g k j)
def beS (g : Nat → Nat → Int32) (N : Nat) (S : Nat → Int32) : Nat → Nat → Int32
  | 0 => S
  | k + 1 => beR g k (beS g N S k) N
theorem beR_at {g : Nat → Nat → Int32} {k : Nat} {S : Nat → Int32} {i o : Nat} (hi : i < 12) (ho : o < 12) (hk : k < 12) : ∀ j, j ≤ 12 → beR g k S j (i * 12 + o) = if i = k ∧ o < j then g i o else S (i * 12 + o)
  | 0, _ => by simp [beR]
  | j + 1, hj => by
    rw [beR]
    by_cases e : i * 12 + o = k * 12 + j
    · have e2 : i = k := by omega
      have e3 : o = j := by omega
      subst e2; subst e3
      rw [upd_s, if_pos ⟨rfl, by omega⟩]
    · rw [upd_n e, beR_at hi ho hk j (by omega)]
      by_cases c : i = k ∧ o < j
      · rw [if_pos c, if_pos (by omega)]
      · rw [if_neg c, if_neg (by omega)]
theorem beS_at {g : Nat → Nat → Int32} {N : Nat} {S : Nat → Int32} {i o : Nat} (hN : N ≤ 12) (hi : i < 12) (ho : o < N) : ∀ k, k ≤ N → beS g N S k (i * 12 + o) = if i < k then g i o else S (i * 12 + o)
  | 0, _ => by simp [beS]
  | k + 1, hk => by
    rw [beS, beR_at hi (by omega) (by omega) N hN, beS_at hN hi ho k (by omega)]
    by_cases c : i = k
    · subst c
      rw [if_pos ⟨rfl, ho⟩, if_pos (by omega)]
    · rw [if_neg (by omega)]
      by_cases c2 : i < k
      · rw [if_pos c2, if_pos (by omega)]
      · rw [if_neg c2, if_neg (by omega)]
set_option maxRecDepth 100000 in
set_option maxHeartbeats 4000000 in
theorem c_X5_giveCurfew {Z : GZ} {l : Launch} {a : Nat → Nat} {N i : Nat} {dg co li : Int32} {pP pH pF pT pS pD pC : Nat → Int32} (hN : N ≤ 12) (hi : i < N) (ok : StOk N pP pH pF pT li pS pD pC) {fr : Int32} {to_ : Int32}  : Ct Z l yX5_giveCurfew cX5_giveCurfew 4 (some .boolean) (rmK 4) [.ref (a 0), .int (nI i), .int fr, .int to_] (wSt Z a (nI N) dg co li pP pH pF pT pS pD pC) (fun v w => ∃ li2 S2 D2 C2, v = some (.int (b2i (!(decide (pF i = fr) && decide (pT i = to_))))) ∧ w = (wSt Z a (nI N) dg co li2 pP pH (upd pF i fr) (upd pT i to_) S2 D2 C2) ∧ StOk N pP pH (upd pF i fr) (upd pT i to_) li2 S2 D2 C2) := by
  refine Ct.ofJ (own := RX5) (nm := "giveCurfew") (lv0 := [(0, .ref (a 0)), (1, .int (nI i)), (2, .int fr), (3, .int to_)]) (by decide) rfl rfl (Nat.le_of_ble_eq_true rfl) rfl (fun X hXl C E => ?_)
  subst hXl
  refine J_aload_n C iX5_giveCurfew_0 rfl rfl ?_
  refine J_iload_n C iX5_giveCurfew_1 rfl rfl ?_
  refine J_cV (As := [.int (nI i)]) (st := []) (rc2 := (rmK 4).cells) (rs2 := (rmK 4).slots) C iX5_giveCurfew_2 lm_X5_70 yc_X5_has yv_X5_has c_X5_has (q0 := 0) rfl rfl rfl rfl ⟨by decide, by decide⟩ (Nat.le_of_ble_eq_true rfl) rfl rfl ?_
  rintro _ _ ⟨rfl, rfl⟩
  refine J_st (.int (b2i (hasB (nI N) (nI i))) :: []) rfl ?_
  refine J_ifeqb 28 C iX5_giveCurfew_5 rfl (fun h5 => absurd (h5.symm.trans (hasB_nI hi hN)) (by decide)) (fun h5 => ?_)
  refine J_aload_n C iX5_giveCurfew_8 rfl rfl ?_
  refine J_get (.ref (a 3)) 0 C iX5_giveCurfew_9 gf_X5_18 rfl rfl ?_
  refine J_iload_n C iX5_giveCurfew_12 rfl rfl ?_
  refine J_iald 3 C iX5_giveCurfew_13 rfl (vp_in_nI (n := i) (by omega) (by decide)) ?_
  rw [nI_clamp (n := i) (by omega)]
  refine J_iload_n C iX5_giveCurfew_14 rfl rfl ?_
  refine J_icmpne 30 C iX5_giveCurfew_15 rfl (fun h15 => ?_) (fun h15 => ?_)
  · refine J_aload_n C iX5_giveCurfew_30 rfl rfl ?_
    refine J_get (.ref (a 3)) 0 C iX5_giveCurfew_31 gf_X5_18 rfl rfl ?_
    refine J_iload_n C iX5_giveCurfew_34 rfl rfl ?_
    refine J_iload_n C iX5_giveCurfew_35 rfl rfl ?_
    refine J_iast (wSt Z a (nI N) dg co li pP pH (upd pF (nI i).toNatClampNeg fr) pT pS pD pC) 3 C iX5_giveCurfew_36 rfl (vp_in_nI (n := i) (by omega) (by decide)) rfl ?_
    rw [nI_clamp (n := i) (by omega)]
    refine J_aload_n C iX5_giveCurfew_37 rfl rfl ?_
    refine J_get (.ref (a 4)) 0 C iX5_giveCurfew_38 gf_X5_21 rfl rfl ?_
    refine J_iload_n C iX5_giveCurfew_41 rfl rfl ?_
    refine J_iload_n C iX5_giveCurfew_42 rfl rfl ?_
    refine J_iast (wSt Z a (nI N) dg co li pP pH (upd pF i fr) (upd pT (nI i).toNatClampNeg to_) pS pD pC) 4 C iX5_giveCurfew_43 rfl (vp_in_nI (n := i) (by omega) (by decide)) rfl ?_
    rw [nI_clamp (n := i) (by omega)]
    refine J_aload_n C iX5_giveCurfew_44 rfl rfl ?_
    refine J_iload_n C iX5_giveCurfew_45 rfl rfl ?_
    refine J_cV (As := [.int (nI i)]) (st := []) (rc2 := (rmK 4).cells) (rs2 := (rmK 4).slots) C iX5_giveCurfew_46 lm_X5_94 yc_X5_renew yv_X5_renew (c_X5_renew hN hi) (q0 := 0) rfl rfl rfl rfl ⟨by decide, by decide⟩ (Nat.le_of_ble_eq_true rfl) rfl rfl ?_
    rintro _ _ ⟨rfl, rfl⟩
    refine J_st ([]) rfl ?_
    refine J_iconst 1 C iX5_giveCurfew_49 rfl ?_
    exact J_zret C E iX5_giveCurfew_50 rfl ⟨_, _, _, _, (by simp [b2i, h15]), rfl, stok_add (ren_ok hN hi ok.1 (fun j hj => ⟨rfl, rfl, upd_n hj, upd_n hj⟩))⟩
  · refine J_aload_n C iX5_giveCurfew_18 rfl rfl ?_
    refine J_get (.ref (a 4)) 0 C iX5_giveCurfew_19 gf_X5_21 rfl rfl ?_
    refine J_iload_n C iX5_giveCurfew_22 rfl rfl ?_
    refine J_iald 4 C iX5_giveCurfew_23 rfl (vp_in_nI (n := i) (by omega) (by decide)) ?_
    rw [nI_clamp (n := i) (by omega)]
    refine J_iload_n C iX5_giveCurfew_24 rfl rfl ?_
    refine J_icmpne 30 C iX5_giveCurfew_25 rfl (fun h25 => ?_) (fun h25 => ?_)
    · refine J_aload_n C iX5_giveCurfew_30 rfl rfl ?_
      refine J_get (.ref (a 3)) 0 C iX5_giveCurfew_31 gf_X5_18 rfl rfl ?_
      refine J_iload_n C iX5_giveCurfew_34 rfl rfl ?_
      refine J_iload_n C iX5_giveCurfew_35 rfl rfl ?_
      refine J_iast (wSt Z a (nI N) dg co li pP pH (upd pF (nI i).toNatClampNeg fr) pT pS pD pC) 3 C iX5_giveCurfew_36 rfl (vp_in_nI (n := i) (by omega) (by decide)) rfl ?_
      rw [nI_clamp (n := i) (by omega)]
      refine J_aload_n C iX5_giveCurfew_37 rfl rfl ?_
      refine J_get (.ref (a 4)) 0 C iX5_giveCurfew_38 gf_X5_21 rfl rfl ?_
      refine J_iload_n C iX5_giveCurfew_41 rfl rfl ?_
      refine J_iload_n C iX5_giveCurfew_42 rfl rfl ?_
      refine J_iast (wSt Z a (nI N) dg co li pP pH (upd pF i fr) (upd pT (nI i).toNatClampNeg to_) pS pD pC) 4 C iX5_giveCurfew_43 rfl (vp_in_nI (n := i) (by omega) (by decide)) rfl ?_
      rw [nI_clamp (n := i) (by omega)]
      refine J_aload_n C iX5_giveCurfew_44 rfl rfl ?_
      refine J_iload_n C iX5_giveCurfew_45 rfl rfl ?_
      refine J_cV (As := [.int (nI i)]) (st := []) (rc2 := (rmK 4).cells) (rs2 := (rmK 4).slots) C iX5_giveCurfew_46 lm_X5_94 yc_X5_renew yv_X5_renew (c_X5_renew hN hi) (q0 := 0) rfl rfl rfl rfl ⟨by decide, by decide⟩ (Nat.le_of_ble_eq_true rfl) rfl rfl ?_
      rintro _ _ ⟨rfl, rfl⟩
      refine J_st ([]) rfl ?_
      refine J_iconst 1 C iX5_giveCurfew_49 rfl ?_
      exact J_zret C E iX5_giveCurfew_50 rfl ⟨_, _, _, _, (by simp [b2i, h15, h25]), rfl, stok_add (ren_ok hN hi ok.1 (fun j hj => ⟨rfl, rfl, upd_n hj, upd_n hj⟩))⟩
    · refine J_iconst 0 C iX5_giveCurfew_28 rfl ?_
      exact J_zret C E iX5_giveCurfew_29 rfl ⟨li, pS, pD, pC, by simp [b2i, h15, h25], by rw [upd_eq h15, upd_eq h25], by rw [upd_eq h15, upd_eq h25]; exact ok⟩

set_option maxRecDepth 100000 in
set_option maxHeartbeats 4000000 in
theorem c_X5_giveHeight {Z : GZ} {l : Launch} {a : Nat → Nat} {N i : Nat} {dg co li : Int32} {pP pH pF pT pS pD pC : Nat → Int32} (hN : N ≤ 12) (hi : i < N) (ok : StOk N pP pH pF pT li pS pD pC) {x : Int32}  : Ct Z l yX5_giveHeight cX5_giveHeight 3 (some .boolean) (rmK 4) [.ref (a 0), .int (nI i), .int x] (wSt Z a (nI N) dg co li pP pH pF pT pS pD pC) (fun v w => ∃ li2 S2 D2 C2, v = some (.int (b2i (!decide (pH i = x)))) ∧ w = (wSt Z a (nI N) dg co li2 pP (upd pH i x) pF pT S2 D2 C2) ∧ StOk N pP (upd pH i x) pF pT li2 S2 D2 C2) := by
  refine Ct.ofJ (own := RX5) (nm := "giveHeight") (lv0 := [(0, .ref (a 0)), (1, .int (nI i)), (2, .int x)]) (by decide) rfl rfl (Nat.le_of_ble_eq_true rfl) rfl (fun X hXl C E => ?_)
  subst hXl
  refine J_aload_n C iX5_giveHeight_0 rfl rfl ?_
  refine J_iload_n C iX5_giveHeight_1 rfl rfl ?_
  refine J_cV (As := [.int (nI i)]) (st := []) (rc2 := (rmK 4).cells) (rs2 := (rmK 4).slots) C iX5_giveHeight_2 lm_X5_70 yc_X5_has yv_X5_has c_X5_has (q0 := 0) rfl rfl rfl rfl ⟨by decide, by decide⟩ (Nat.le_of_ble_eq_true rfl) rfl rfl ?_
  rintro _ _ ⟨rfl, rfl⟩
  refine J_st (.int (b2i (hasB (nI N) (nI i))) :: []) rfl ?_
  refine J_ifeqb 18 C iX5_giveHeight_5 rfl (fun h5 => absurd (h5.symm.trans (hasB_nI hi hN)) (by decide)) (fun h5 => ?_)
  refine J_aload_n C iX5_giveHeight_8 rfl rfl ?_
  refine J_get (.ref (a 2)) 0 C iX5_giveHeight_9 gf_X5_15 rfl rfl ?_
  refine J_iload_n C iX5_giveHeight_12 rfl rfl ?_
  refine J_iald 2 C iX5_giveHeight_13 rfl (vp_in_nI (n := i) (by omega) (by decide)) ?_
  rw [nI_clamp (n := i) (by omega)]
  refine J_iload_n C iX5_giveHeight_14 rfl rfl ?_
  refine J_icmpne 20 C iX5_giveHeight_15 rfl (fun h15 => ?_) (fun h15 => ?_)
  · refine J_aload_n C iX5_giveHeight_20 rfl rfl ?_
    refine J_get (.ref (a 2)) 0 C iX5_giveHeight_21 gf_X5_15 rfl rfl ?_
    refine J_iload_n C iX5_giveHeight_24 rfl rfl ?_
    refine J_iload_n C iX5_giveHeight_25 rfl rfl ?_
    refine J_iast (wSt Z a (nI N) dg co li pP (upd pH (nI i).toNatClampNeg x) pF pT pS pD pC) 2 C iX5_giveHeight_26 rfl (vp_in_nI (n := i) (by omega) (by decide)) rfl ?_
    rw [nI_clamp (n := i) (by omega)]
    refine J_aload_n C iX5_giveHeight_27 rfl rfl ?_
    refine J_iload_n C iX5_giveHeight_28 rfl rfl ?_
    refine J_cV (As := [.int (nI i)]) (st := []) (rc2 := (rmK 4).cells) (rs2 := (rmK 4).slots) C iX5_giveHeight_29 lm_X5_94 yc_X5_renew yv_X5_renew (c_X5_renew hN hi) (q0 := 0) rfl rfl rfl rfl ⟨by decide, by decide⟩ (Nat.le_of_ble_eq_true rfl) rfl rfl ?_
    rintro _ _ ⟨rfl, rfl⟩
    refine J_st ([]) rfl ?_
    refine J_iconst 1 C iX5_giveHeight_32 rfl ?_
    exact J_zret C E iX5_giveHeight_33 rfl ⟨_, _, _, _, (by simp [b2i, h15]), rfl, stok_add (ren_ok hN hi ok.1 (fun j hj => ⟨rfl, upd_n hj, rfl, rfl⟩))⟩
  · refine J_iconst 0 C iX5_giveHeight_18 rfl ?_
    exact J_zret C E iX5_giveHeight_19 rfl ⟨li, pS, pD, pC, by simp [b2i, h15], by rw [upd_eq h15], by rw [upd_eq h15]; exact ok⟩

set_option maxRecDepth 100000 in
set_option maxHeartbeats 4000000 in
theorem c_X5_givePlace {Z : GZ} {l : Launch} {a : Nat → Nat} {N i : Nat} {dg co li : Int32} {pP pH pF pT pS pD pC : Nat → Int32} (hN : N ≤ 12) (hi : i < N) (ok : StOk N pP pH pF pT li pS pD pC) {x : Int32}  : Ct Z l yX5_givePlace cX5_givePlace 3 none (rmK 4) [.ref (a 0), .int (nI i), .int x] (wSt Z a (nI N) dg co li pP pH pF pT pS pD pC) (fun v w => ∃ li2 S2 D2 C2, v = none ∧ w = (wSt Z a (nI N) dg co li2 (upd pP i x) pH pF pT S2 D2 C2) ∧ StOk N (upd pP i x) pH pF pT li2 S2 D2 C2) := by
  refine Ct.ofJ (own := RX5) (nm := "givePlace") (lv0 := [(0, .ref (a 0)), (1, .int (nI i)), (2, .int x)]) (by decide) rfl rfl (Nat.le_of_ble_eq_true rfl) rfl (fun X hXl C E => ?_)
  subst hXl
  refine J_aload_n C iX5_givePlace_0 rfl rfl ?_
  refine J_iload_n C iX5_givePlace_1 rfl rfl ?_
  refine J_cV (As := [.int (nI i)]) (st := []) (rc2 := (rmK 4).cells) (rs2 := (rmK 4).slots) C iX5_givePlace_2 lm_X5_70 yc_X5_has yv_X5_has c_X5_has (q0 := 0) rfl rfl rfl rfl ⟨by decide, by decide⟩ (Nat.le_of_ble_eq_true rfl) rfl rfl ?_
  rintro _ _ ⟨rfl, rfl⟩
  refine J_st (.int (b2i (hasB (nI N) (nI i))) :: []) rfl ?_
  refine J_ifeqb 20 C iX5_givePlace_5 rfl (fun h5 => absurd (h5.symm.trans (hasB_nI hi hN)) (by decide)) (fun h5 => ?_)
  refine J_aload_n C iX5_givePlace_8 rfl rfl ?_
  refine J_get (.ref (a 1)) 0 C iX5_givePlace_9 gf_X5_9 rfl rfl ?_
  refine J_iload_n C iX5_givePlace_12 rfl rfl ?_
  refine J_iload_n C iX5_givePlace_13 rfl rfl ?_
  refine J_iast (wSt Z a (nI N) dg co li (upd pP (nI i).toNatClampNeg x) pH pF pT pS pD pC) 1 C iX5_givePlace_14 rfl (vp_in_nI (n := i) (by omega) (by decide)) rfl ?_
  rw [nI_clamp (n := i) (by omega)]
  refine J_aload_n C iX5_givePlace_15 rfl rfl ?_
  refine J_iload_n C iX5_givePlace_16 rfl rfl ?_
  refine J_cV (As := [.int (nI i)]) (st := []) (rc2 := (rmK 4).cells) (rs2 := (rmK 4).slots) C iX5_givePlace_17 lm_X5_94 yc_X5_renew yv_X5_renew (c_X5_renew hN hi) (q0 := 0) rfl rfl rfl rfl ⟨by decide, by decide⟩ (Nat.le_of_ble_eq_true rfl) rfl rfl ?_
  rintro _ _ ⟨rfl, rfl⟩
  refine J_st ([]) rfl ?_
  exact J_vret C E iX5_givePlace_20 ⟨_, _, _, _, rfl, rfl, stok_add (ren_ok hN hi ok.1 (fun j hj => ⟨upd_n hj, rfl, rfl, rfl⟩))⟩

set_option maxRecDepth 100000 in
set_option maxHeartbeats 4000000 in
theorem c_X5_become {Z : GZ} {l : Launch} {a : Nat → Nat} {n dg co li : Int32} {pP pH pF pT pS pD pC : Nat → Int32} {b : Nat → Nat} {n2 dg2 co2 li2 : Int32} {pP2 pH2 pF2 pT2 pS2 pD2 pC2 : Nat → Int32}  : Ct Z l yX5_become cX5_become 2 none (rmK 2) [.ref (a 0), .ref (b 0)] (wSt Z a n dg co li pP pH pF pT pS pD pC ++ wSt Z b n2 dg2 co2 li2 pP2 pH2 pF2 pT2 pS2 pD2 pC2) (fun v w => v = none ∧ w = (wSt Z a n2 dg2 co2 li2 pP2 pH2 pF2 pT2 pS2 pD2 pC2 ++ wSt Z b n2 dg2 co2 li2 pP2 pH2 pF2 pT2 pS2 pD2 pC2)) := by
  refine Ct.ofJ (own := RX5) (nm := "become") (lv0 := [(0, .ref (a 0)), (1, .ref (b 0))]) (by decide) rfl rfl (Nat.le_of_ble_eq_true rfl) rfl (fun X hXl C E => ?_)
  subst hXl
  refine J_aload_n C iX5_become_0 rfl rfl ?_
  refine J_aload_n C iX5_become_1 rfl rfl ?_
  refine J_get (.int n2) 8 C iX5_become_2 gf_X5_43 rfl rfl ?_
  refine J_put (wSt Z a n2 dg co li pP pH pF pT pS pD pC ++ wSt Z b n2 dg2 co2 li2 pP2 pH2 pF2 pT2 pS2 pD2 pC2) 0 C iX5_become_5 pf_X5_43 rfl rfl rfl (Nat.le_of_ble_eq_true rfl) rfl ?_
  refine J_aload_n C iX5_become_8 rfl rfl ?_
  refine J_aload_n C iX5_become_9 rfl rfl ?_
  refine J_get (.int dg2) 8 C iX5_become_10 gf_X5_46 rfl rfl ?_
  refine J_put (wSt Z a n2 dg2 co li pP pH pF pT pS pD pC ++ wSt Z b n2 dg2 co2 li2 pP2 pH2 pF2 pT2 pS2 pD2 pC2) 0 C iX5_become_13 pf_X5_46 rfl rfl rfl (Nat.le_of_ble_eq_true rfl) rfl ?_
  refine J_aload_n C iX5_become_16 rfl rfl ?_
  refine J_aload_n C iX5_become_17 rfl rfl ?_
  refine J_get (.int co2) 8 C iX5_become_18 gf_X5_49 rfl rfl ?_
  refine J_put (wSt Z a n2 dg2 co2 li pP pH pF pT pS pD pC ++ wSt Z b n2 dg2 co2 li2 pP2 pH2 pF2 pT2 pS2 pD2 pC2) 0 C iX5_become_21 pf_X5_49 rfl rfl rfl (Nat.le_of_ble_eq_true rfl) rfl ?_
  refine J_aload_n C iX5_become_24 rfl rfl ?_
  refine J_aload_n C iX5_become_25 rfl rfl ?_
  refine J_get (.int li2) 8 C iX5_become_26 gf_X5_61 rfl rfl ?_
  refine J_put (wSt Z a n2 dg2 co2 li2 pP pH pF pT pS pD pC ++ wSt Z b n2 dg2 co2 li2 pP2 pH2 pF2 pT2 pS2 pD2 pC2) 0 C iX5_become_29 pf_X5_61 rfl rfl rfl (Nat.le_of_ble_eq_true rfl) rfl ?_
  refine J_aload_n C iX5_become_32 rfl rfl ?_
  refine J_get (.ref (b 1)) 8 C iX5_become_33 gf_X5_9 rfl rfl ?_
  refine J_iconst 0 C iX5_become_36 rfl ?_
  refine J_aload_n C iX5_become_37 rfl rfl ?_
  refine J_get (.ref (a 1)) 0 C iX5_become_38 gf_X5_9 rfl rfl ?_
  refine J_iconst 0 C iX5_become_41 rfl ?_
  refine J_bipush 12 C iX5_become_42 rfl ?_
  refine J_copy (wSt Z a n2 dg2 co2 li2 (va_cpy pP2 pP 0 0 12) pH pF pT pS pD pC ++ wSt Z b n2 dg2 co2 li2 pP2 pH2 pF2 pT2 pS2 pD2 pC2) 9 1 C iX5_become_44 (tsg_in (i := 692) (by decide +kernel) rfl) ac_1 ac_2 ac_3 rfl rfl (by decide) (by decide) (by decide) (by decide) (by decide) (by decide) (Nat.le_of_ble_eq_true rfl) rfl ?_
  refine J_rowI 1 (g := pP2) (wSt Z a n2 dg2 co2 li2 pP2 pH pF pT pS pD pC ++ wSt Z b n2 dg2 co2 li2 pP2 pH2 pF2 pT2 pS2 pD2 pC2) rfl (fun i hi => cpy_all hi) rfl ?_
  refine J_aload_n C iX5_become_47 rfl rfl ?_
  refine J_get (.ref (b 2)) 8 C iX5_become_48 gf_X5_15 rfl rfl ?_
  refine J_iconst 0 C iX5_become_51 rfl ?_
  refine J_aload_n C iX5_become_52 rfl rfl ?_
  refine J_get (.ref (a 2)) 0 C iX5_become_53 gf_X5_15 rfl rfl ?_
  refine J_iconst 0 C iX5_become_56 rfl ?_
  refine J_bipush 12 C iX5_become_57 rfl ?_
  refine J_copy (wSt Z a n2 dg2 co2 li2 pP2 (va_cpy pH2 pH 0 0 12) pF pT pS pD pC ++ wSt Z b n2 dg2 co2 li2 pP2 pH2 pF2 pT2 pS2 pD2 pC2) 10 2 C iX5_become_59 (tsg_in (i := 692) (by decide +kernel) rfl) ac_1 ac_2 ac_3 rfl rfl (by decide) (by decide) (by decide) (by decide) (by decide) (by decide) (Nat.le_of_ble_eq_true rfl) rfl ?_
  refine J_rowI 2 (g := pH2) (wSt Z a n2 dg2 co2 li2 pP2 pH2 pF pT pS pD pC ++ wSt Z b n2 dg2 co2 li2 pP2 pH2 pF2 pT2 pS2 pD2 pC2) rfl (fun i hi => cpy_all hi) rfl ?_
  refine J_aload_n C iX5_become_62 rfl rfl ?_
  refine J_get (.ref (b 3)) 8 C iX5_become_63 gf_X5_18 rfl rfl ?_
  refine J_iconst 0 C iX5_become_66 rfl ?_
  refine J_aload_n C iX5_become_67 rfl rfl ?_
  refine J_get (.ref (a 3)) 0 C iX5_become_68 gf_X5_18 rfl rfl ?_
  refine J_iconst 0 C iX5_become_71 rfl ?_
  refine J_bipush 12 C iX5_become_72 rfl ?_
  refine J_copy (wSt Z a n2 dg2 co2 li2 pP2 pH2 (va_cpy pF2 pF 0 0 12) pT pS pD pC ++ wSt Z b n2 dg2 co2 li2 pP2 pH2 pF2 pT2 pS2 pD2 pC2) 11 3 C iX5_become_74 (tsg_in (i := 692) (by decide +kernel) rfl) ac_1 ac_2 ac_3 rfl rfl (by decide) (by decide) (by decide) (by decide) (by decide) (by decide) (Nat.le_of_ble_eq_true rfl) rfl ?_
  refine J_rowI 3 (g := pF2) (wSt Z a n2 dg2 co2 li2 pP2 pH2 pF2 pT pS pD pC ++ wSt Z b n2 dg2 co2 li2 pP2 pH2 pF2 pT2 pS2 pD2 pC2) rfl (fun i hi => cpy_all hi) rfl ?_
  refine J_aload_n C iX5_become_77 rfl rfl ?_
  refine J_get (.ref (b 4)) 8 C iX5_become_78 gf_X5_21 rfl rfl ?_
  refine J_iconst 0 C iX5_become_81 rfl ?_
  refine J_aload_n C iX5_become_82 rfl rfl ?_
  refine J_get (.ref (a 4)) 0 C iX5_become_83 gf_X5_21 rfl rfl ?_
  refine J_iconst 0 C iX5_become_86 rfl ?_
  refine J_bipush 12 C iX5_become_87 rfl ?_
  refine J_copy (wSt Z a n2 dg2 co2 li2 pP2 pH2 pF2 (va_cpy pT2 pT 0 0 12) pS pD pC ++ wSt Z b n2 dg2 co2 li2 pP2 pH2 pF2 pT2 pS2 pD2 pC2) 12 4 C iX5_become_89 (tsg_in (i := 692) (by decide +kernel) rfl) ac_1 ac_2 ac_3 rfl rfl (by decide) (by decide) (by decide) (by decide) (by decide) (by decide) (Nat.le_of_ble_eq_true rfl) rfl ?_
  refine J_rowI 4 (g := pT2) (wSt Z a n2 dg2 co2 li2 pP2 pH2 pF2 pT2 pS pD pC ++ wSt Z b n2 dg2 co2 li2 pP2 pH2 pF2 pT2 pS2 pD2 pC2) rfl (fun i hi => cpy_all hi) rfl ?_
  refine J_aload_n C iX5_become_92 rfl rfl ?_
  refine J_get (.ref (b 5)) 8 C iX5_become_93 gf_X5_24 rfl rfl ?_
  refine J_iconst 0 C iX5_become_96 rfl ?_
  refine J_aload_n C iX5_become_97 rfl rfl ?_
  refine J_get (.ref (a 5)) 0 C iX5_become_98 gf_X5_24 rfl rfl ?_
  refine J_iconst 0 C iX5_become_101 rfl ?_
  refine J_sipush 144 C iX5_become_102 rfl ?_
  refine J_copy (wSt Z a n2 dg2 co2 li2 pP2 pH2 pF2 pT2 (va_cpy pS2 pS 0 0 144) pD pC ++ wSt Z b n2 dg2 co2 li2 pP2 pH2 pF2 pT2 pS2 pD2 pC2) 13 5 C iX5_become_105 (tsg_in (i := 692) (by decide +kernel) rfl) ac_1 ac_2 ac_3 rfl rfl (by decide) (by decide) (by decide) (by decide) (by decide) (by decide) (Nat.le_of_ble_eq_true rfl) rfl ?_
  refine J_rowI 5 (g := pS2) (wSt Z a n2 dg2 co2 li2 pP2 pH2 pF2 pT2 pS2 pD pC ++ wSt Z b n2 dg2 co2 li2 pP2 pH2 pF2 pT2 pS2 pD2 pC2) rfl (fun i hi => cpy_all hi) rfl ?_
  refine J_aload_n C iX5_become_108 rfl rfl ?_
  refine J_get (.ref (b 6)) 8 C iX5_become_109 gf_X5_27 rfl rfl ?_
  refine J_iconst 0 C iX5_become_112 rfl ?_
  refine J_aload_n C iX5_become_113 rfl rfl ?_
  refine J_get (.ref (a 6)) 0 C iX5_become_114 gf_X5_27 rfl rfl ?_
  refine J_iconst 0 C iX5_become_117 rfl ?_
  refine J_bipush 12 C iX5_become_118 rfl ?_
  refine J_copy (wSt Z a n2 dg2 co2 li2 pP2 pH2 pF2 pT2 pS2 (va_cpy pD2 pD 0 0 12) pC ++ wSt Z b n2 dg2 co2 li2 pP2 pH2 pF2 pT2 pS2 pD2 pC2) 14 6 C iX5_become_120 (tsg_in (i := 692) (by decide +kernel) rfl) ac_1 ac_2 ac_3 rfl rfl (by decide) (by decide) (by decide) (by decide) (by decide) (by decide) (Nat.le_of_ble_eq_true rfl) rfl ?_
  refine J_rowI 6 (g := pD2) (wSt Z a n2 dg2 co2 li2 pP2 pH2 pF2 pT2 pS2 pD2 pC ++ wSt Z b n2 dg2 co2 li2 pP2 pH2 pF2 pT2 pS2 pD2 pC2) rfl (fun i hi => cpy_all hi) rfl ?_
  refine J_aload_n C iX5_become_123 rfl rfl ?_
  refine J_get (.ref (b 7)) 8 C iX5_become_124 gf_X5_30 rfl rfl ?_
  refine J_iconst 0 C iX5_become_127 rfl ?_
  refine J_aload_n C iX5_become_128 rfl rfl ?_
  refine J_get (.ref (a 7)) 0 C iX5_become_129 gf_X5_30 rfl rfl ?_
  refine J_iconst 0 C iX5_become_132 rfl ?_
  refine J_bipush 12 C iX5_become_133 rfl ?_
  refine J_copy (wSt Z a n2 dg2 co2 li2 pP2 pH2 pF2 pT2 pS2 pD2 (va_cpy pC2 pC 0 0 12) ++ wSt Z b n2 dg2 co2 li2 pP2 pH2 pF2 pT2 pS2 pD2 pC2) 15 7 C iX5_become_135 (tsg_in (i := 692) (by decide +kernel) rfl) ac_1 ac_2 ac_3 rfl rfl (by decide) (by decide) (by decide) (by decide) (by decide) (by decide) (Nat.le_of_ble_eq_true rfl) rfl ?_
  refine J_rowI 7 (g := pC2) (wSt Z a n2 dg2 co2 li2 pP2 pH2 pF2 pT2 pS2 pD2 pC2 ++ wSt Z b n2 dg2 co2 li2 pP2 pH2 pF2 pT2 pS2 pD2 pC2) rfl (fun i hi => cpy_all hi) rfl ?_
  exact J_vret C E iX5_become_138 ⟨rfl, rfl⟩

set_option maxRecDepth 100000 in
set_option maxHeartbeats 4000000 in
theorem c_X5_beginWith {Z : GZ} {l : Launch} {a : Nat → Nat} {N : Nat} {n dg co li : Int32} {pP pH pF pT pS pD pC : Nat → Int32} (hN : N ≤ 12) {c L : Nat → Nat} {lc sc : Int32} {nm : Nat → Int64} {bP bH op f1 f2 l0 l1 l2 l3 l4 l5 : Nat → Int32}  : Ct Z l yX5_beginWith cX5_beginWith 4 none (rmK 3) [.ref (a 0), .ref (c 0)] (wSt Z a n dg co li pP pH pF pT pS pD pC ++ wBk Z c L (nI N) lc sc nm bP bH op f1 f2 l0 l1 l2 l3 l4 l5) (fun v w => v = none ∧ w = (wSt Z a (nI N) 0 0 (lostF N (beS (gF N (fillN bP pP N) (fillN bH pH N) (fillN (fun _ => -1) pF N) (fillN (fun _ => -1) pT N)) N pS N) N) (fillN bP pP N) (fillN bH pH N) (fillN (fun _ => -1) pF N) (fillN (fun _ => -1) pT N) (beS (gF N (fillN bP pP N) (fillN bH pH N) (fillN (fun _ => -1) pF N) (fillN (fun _ => -1) pT N)) N pS N) (fillN (darkF N (beS (gF N (fillN bP pP N) (fillN bH pH N) (fillN (fun _ => -1) pF N) (fillN (fun _ => -1) pT N)) N pS N)) pD N) (fillN (castF N (beS (gF N (fillN bP pP N) (fillN bH pH N) (fillN (fun _ => -1) pF N) (fillN (fun _ => -1) pT N)) N pS N)) pC N) ++ wBk Z c L (nI N) lc sc nm bP bH op f1 f2 l0 l1 l2 l3 l4 l5)) := by
  refine Ct.ofJ (own := RX5) (nm := "beginWith") (lv0 := [(0, .ref (a 0)), (1, .ref (c 0))]) (by decide) rfl rfl (Nat.le_of_ble_eq_true rfl) rfl (fun X hXl C E => ?_)
  subst hXl
  refine J_aload_n C iX5_beginWith_0 rfl rfl ?_
  refine J_aload_n C iX5_beginWith_1 rfl rfl ?_
  refine J_get (.int (nI N)) 8 C iX5_beginWith_2 gf_X5_33 rfl rfl ?_
  refine J_i2l C iX5_beginWith_5 ?_
  refine J_iconst 0 C iX5_beginWith_6 rfl ?_
  refine J_bipush 12 C iX5_beginWith_7 rfl ?_
  refine J_cSNp (As := [.long ((nI N).toInt64), .int 0, .int 12]) (st := .ref (a 0) :: []) C iX5_beginWith_9 ln_X5_39 yc_X8_held ys_X8_held c_X8_held rfl ⟨by decide, by decide⟩ (Nat.le_of_ble_eq_true rfl) ⟨rfl, rfl⟩ ?_
  rintro _ rfl
  refine J_st (.int (hlF (nI N).toInt64 0 12) :: .ref (a 0) :: []) rfl ?_
  rw [hl12 N hN]
  refine J_put (wSt Z a (nI N) dg co li pP pH pF pT pS pD pC ++ wBk Z c L (nI N) lc sc nm bP bH op f1 f2 l0 l1 l2 l3 l4 l5) 0 C iX5_beginWith_12 pf_X5_43 rfl rfl rfl (Nat.le_of_ble_eq_true rfl) rfl ?_
  refine J_aload_n C iX5_beginWith_15 rfl rfl ?_
  refine J_iconst 0 C iX5_beginWith_16 rfl ?_
  refine J_put (wSt Z a (nI N) 0 co li pP pH pF pT pS pD pC ++ wBk Z c L (nI N) lc sc nm bP bH op f1 f2 l0 l1 l2 l3 l4 l5) 0 C iX5_beginWith_17 pf_X5_46 rfl rfl rfl (Nat.le_of_ble_eq_true rfl) rfl ?_
  refine J_aload_n C iX5_beginWith_20 rfl rfl ?_
  refine J_iconst 0 C iX5_beginWith_21 rfl ?_
  refine J_put (wSt Z a (nI N) 0 0 li pP pH pF pT pS pD pC ++ wBk Z c L (nI N) lc sc nm bP bH op f1 f2 l0 l1 l2 l3 l4 l5) 0 C iX5_beginWith_22 pf_X5_49 rfl rfl rfl (Nat.le_of_ble_eq_true rfl) rfl ?_
  refine J_iconst 0 C iX5_beginWith_25 rfl ?_
  refine J_istore_n [(2, .int 0), (0, .ref (a 0)), (1, .ref (c 0))] C iX5_beginWith_26 rfl (by decide) rfl ?_
  refine J_lvm [(2, .int 0), (0, .ref (a 0)), (1, .ref (c 0))] rfl ?_
  refine J_ws (wSt Z a (nI N) 0 0 li (fillN bP pP 0) (fillN bH pH 0) (fillN (fun _ => -1) pF 0) (fillN (fun _ => -1) pT 0) pS pD pC ++ wBk Z c L (nI N) lc sc nm bP bH op f1 f2 l0 l1 l2 l3 l4 l5) (by simp only [fillN_0]) ?_
  refine J_for (fun k => [(2, .int (nI k)), (0, .ref (a 0)), (1, .ref (c 0))]) (fun k => (wSt Z a (nI N) 0 0 li (fillN bP pP k) (fillN bH pH k) (fillN (fun _ => -1) pF k) (fillN (fun _ => -1) pT k) pS pD pC ++ wBk Z c L (nI N) lc sc nm bP bH op f1 f2 l0 l1 l2 l3 l4 l5)) N 0 (by omega) ?_ (fun k hk0 hk ih => ?_)
  · refine J_iload_n C iX5_beginWith_27 rfl rfl ?_
    refine J_aload_n C iX5_beginWith_28 rfl rfl ?_
    refine J_get (.int (nI N)) 0 C iX5_beginWith_29 gf_X5_43 rfl rfl ?_
    refine J_icmpge 79 C iX5_beginWith_32 rfl (fun h32 => ?_) (fun h32 => absurd (nI_le (a := N) (b := N) (by omega) (by omega)) h32)
    refine J_iconst 0 C iX5_beginWith_79 rfl ?_
    refine J_istore_n [(2, .int 0), (0, .ref (a 0)), (1, .ref (c 0))] C iX5_beginWith_80 rfl (by decide) rfl ?_
    refine J_lvm [(2, .int 0), (0, .ref (a 0)), (1, .ref (c 0))] rfl ?_
    refine J_ws (wSt Z a (nI N) 0 0 li (fillN bP pP N) (fillN bH pH N) (fillN (fun _ => -1) pF N) (fillN (fun _ => -1) pT N) (beS (gF N (fillN bP pP N) (fillN bH pH N) (fillN (fun _ => -1) pF N) (fillN (fun _ => -1) pT N)) N pS 0) pD pC ++ wBk Z c L (nI N) lc sc nm bP bH op f1 f2 l0 l1 l2 l3 l4 l5) rfl ?_
    refine J_for (fun k => [(2, .int (nI k)), (0, .ref (a 0)), (1, .ref (c 0))]) (fun k => (wSt Z a (nI N) 0 0 li (fillN bP pP N) (fillN bH pH N) (fillN (fun _ => -1) pF N) (fillN (fun _ => -1) pT N) (beS (gF N (fillN bP pP N) (fillN bH pH N) (fillN (fun _ => -1) pF N) (fillN (fun _ => -1) pT N)) N pS k) pD pC ++ wBk Z c L (nI N) lc sc nm bP bH op f1 f2 l0 l1 l2 l3 l4 l5)) N 0 (by omega) ?_ (fun k hk0 hk ih => ?_)
    · refine J_iload_n C iX5_beginWith_81 rfl rfl ?_
      refine J_aload_n C iX5_beginWith_82 rfl rfl ?_
      refine J_get (.int (nI N)) 0 C iX5_beginWith_83 gf_X5_43 rfl rfl ?_
      refine J_icmpge 128 C iX5_beginWith_86 rfl (fun h86 => ?_) (fun h86 => absurd (nI_le (a := N) (b := N) (by omega) (by omega)) h86)
      refine J_aload_n C iX5_beginWith_128 rfl rfl ?_
      refine J_cVb (As := []) (st := []) (rc2 := (rmK 3).cells) (rs2 := (rmK 3).slots) C iX5_beginWith_129 lm_X5_58 yc_X5_addUp yv_X5_addUp (c_X5_addUp hN) (q0 := 0) rfl rfl rfl [] (wBk Z c L (nI N) lc sc nm bP bH op f1 f2 l0 l1 l2 l3 l4 l5) rfl rfl ⟨by decide, by decide⟩ (Nat.le_of_ble_eq_true rfl) rfl rfl ?_
      rintro _ _ ⟨rfl, rfl⟩
      refine J_st ([]) rfl ?_
      refine J_ws (wSt Z a (nI N) 0 0 (lostF N (beS (gF N (fillN bP pP N) (fillN bH pH N) (fillN (fun _ => -1) pF N) (fillN (fun _ => -1) pT N)) N pS N) N) (fillN bP pP N) (fillN bH pH N) (fillN (fun _ => -1) pF N) (fillN (fun _ => -1) pT N) (beS (gF N (fillN bP pP N) (fillN bH pH N) (fillN (fun _ => -1) pF N) (fillN (fun _ => -1) pT N)) N pS N) (fillN (darkF N (beS (gF N (fillN bP pP N) (fillN bH pH N) (fillN (fun _ => -1) pF N) (fillN (fun _ => -1) pT N)) N pS N)) pD N) (fillN (castF N (beS (gF N (fillN bP pP N) (fillN bH pH N) (fillN (fun _ => -1) pF N) (fillN (fun _ => -1) pT N)) N pS N)) pC N) ++ wBk Z c L (nI N) lc sc nm bP bH op f1 f2 l0 l1 l2 l3 l4 l5) rfl ?_
      exact J_vret C E iX5_beginWith_132 ⟨rfl, rfl⟩
    · refine J_iload_n C iX5_beginWith_81 rfl rfl ?_
      refine J_aload_n C iX5_beginWith_82 rfl rfl ?_
      refine J_get (.int (nI N)) 0 C iX5_beginWith_83 gf_X5_43 rfl rfl ?_
      refine J_icmpge 128 C iX5_beginWith_86 rfl (fun h86 => absurd h86 (nI_ge (a := k) (b := N) (by omega) (by omega))) (fun h86 => ?_)
      refine J_iconst 0 C iX5_beginWith_89 rfl ?_
      refine J_istore_n [(3, .int 0), (2, .int (nI k)), (0, .ref (a 0)), (1, .ref (c 0))] C iX5_beginWith_90 rfl (by decide) rfl ?_
      refine J_lvm [(3, .int 0), (2, .int (nI k)), (0, .ref (a 0)), (1, .ref (c 0))] rfl ?_
      refine J_ws (wSt Z a (nI N) 0 0 li (fillN bP pP N) (fillN bH pH N) (fillN (fun _ => -1) pF N) (fillN (fun _ => -1) pT N) (beR (gF N (fillN bP pP N) (fillN bH pH N) (fillN (fun _ => -1) pF N) (fillN (fun _ => -1) pT N)) k (beS (gF N (fillN bP pP N) (fillN bH pH N) (fillN (fun _ => -1) pF N) (fillN (fun _ => -1) pT N)) N pS k) 0) pD pC ++ wBk Z c L (nI N) lc sc nm bP bH op f1 f2 l0 l1 l2 l3 l4 l5) rfl ?_
      refine J_for (fun j => [(3, .int (nI j)), (2, .int (nI k)), (0, .ref (a 0)), (1, .ref (c 0))]) (fun j => (wSt Z a (nI N) 0 0 li (fillN bP pP N) (fillN bH pH N) (fillN (fun _ => -1) pF N) (fillN (fun _ => -1) pT N) (beR (gF N (fillN bP pP N) (fillN bH pH N) (fillN (fun _ => -1) pF N) (fillN (fun _ => -1) pT N)) k (beS (gF N (fillN bP pP N) (fillN bH pH N) (fillN (fun _ => -1) pF N) (fillN (fun _ => -1) pT N)) N pS k) j) pD pC ++ wBk Z c L (nI N) lc sc nm bP bH op f1 f2 l0 l1 l2 l3 l4 l5)) N 0 (by omega) ?_ (fun j hj0 hj ihj => ?_)
      · refine J_iload_n C iX5_beginWith_91 rfl rfl ?_
        refine J_aload_n C iX5_beginWith_92 rfl rfl ?_
        refine J_get (.int (nI N)) 0 C iX5_beginWith_93 gf_X5_43 rfl rfl ?_
        refine J_icmpge 122 C iX5_beginWith_96 rfl (fun h96 => ?_) (fun h96 => absurd (nI_le (a := N) (b := N) (by omega) (by omega)) h96)
        refine J_iinc ((nI k) + 1) [(2, .int ((nI k) + 1)), (3, .int (nI N)), (0, .ref (a 0)), (1, .ref (c 0))] C iX5_beginWith_122 rfl rfl (by decide) rfl ?_
        rw [show (nI k) + 1 = nI (k + 1) from nI_add _ _]
        refine J_goto 81 C iX5_beginWith_125 rfl ?_
        refine J_lvm [(2, .int (nI (k + 1))), (0, .ref (a 0)), (1, .ref (c 0))] rfl ?_
        exact ih
      · refine J_iload_n C iX5_beginWith_91 rfl rfl ?_
        refine J_aload_n C iX5_beginWith_92 rfl rfl ?_
        refine J_get (.int (nI N)) 0 C iX5_beginWith_93 gf_X5_43 rfl rfl ?_
        refine J_icmpge 122 C iX5_beginWith_96 rfl (fun h96 => absurd h96 (nI_ge (a := j) (b := N) (by omega) (by omega))) (fun h96 => ?_)
        refine J_aload_n C iX5_beginWith_99 rfl rfl ?_
        refine J_get (.ref (a 5)) 0 C iX5_beginWith_100 gf_X5_24 rfl rfl ?_
        refine J_iload_n C iX5_beginWith_103 rfl rfl ?_
        refine J_bipush 12 C iX5_beginWith_104 rfl ?_
        refine J_imul C iX5_beginWith_106 ?_
        refine J_iload_n C iX5_beginWith_107 rfl rfl ?_
        refine J_iadd C iX5_beginWith_108 ?_
        refine J_aload_n C iX5_beginWith_109 rfl rfl ?_
        refine J_iload_n C iX5_beginWith_110 rfl rfl ?_
        refine J_iload_n C iX5_beginWith_111 rfl rfl ?_
        refine J_cVb (As := [.int (nI k), .int (nI j)]) (st := .int (((nI k) * 12) + (nI j)) :: .ref (a 5) :: []) (rc2 := (rmK 3).cells) (rs2 := (rmK 3).slots) C iX5_beginWith_112 lm_X5_54 yc_X5_findHoursShaded yv_X5_findHoursShaded c_X5_findHoursShaded (q0 := 0) rfl rfl rfl [] (wBk Z c L (nI N) lc sc nm bP bH op f1 f2 l0 l1 l2 l3 l4 l5) rfl rfl ⟨by decide, by decide⟩ (Nat.le_of_ble_eq_true rfl) rfl rfl ?_
        rintro _ _ ⟨rfl, rfl⟩
        refine J_st (.int (fhF (nI N) (fillN bP pP N) (fillN bH pH N) (fillN (fun _ => -1) pF N) (fillN (fun _ => -1) pT N) (nI k) (nI j)) :: .int (((nI k) * 12) + (nI j)) :: .ref (a 5) :: []) rfl ?_
        refine J_ws (wSt Z a (nI N) 0 0 li (fillN bP pP N) (fillN bH pH N) (fillN (fun _ => -1) pF N) (fillN (fun _ => -1) pT N) (beR (gF N (fillN bP pP N) (fillN bH pH N) (fillN (fun _ => -1) pF N) (fillN (fun _ => -1) pT N)) k (beS (gF N (fillN bP pP N) (fillN bH pH N) (fillN (fun _ => -1) pF N) (fillN (fun _ => -1) pT N)) N pS k) j) pD pC ++ wBk Z c L (nI N) lc sc nm bP bH op f1 f2 l0 l1 l2 l3 l4 l5) rfl ?_
        refine J_iast (wSt Z a (nI N) 0 0 li (fillN bP pP N) (fillN bH pH N) (fillN (fun _ => -1) pF N) (fillN (fun _ => -1) pT N) (upd (beR (gF N (fillN bP pP N) (fillN bH pH N) (fillN (fun _ => -1) pF N) (fillN (fun _ => -1) pT N)) k (beS (gF N (fillN bP pP N) (fillN bH pH N) (fillN (fun _ => -1) pF N) (fillN (fun _ => -1) pT N)) N pS k) j) (((nI k) * 12) + (nI j)).toNatClampNeg (fhF (nI N) (fillN bP pP N) (fillN bH pH N) (fillN (fun _ => -1) pF N) (fillN (fun _ => -1) pT N) (nI k) (nI j))) pD pC ++ wBk Z c L (nI N) lc sc nm bP bH op f1 f2 l0 l1 l2 l3 l4 l5) 5 C iX5_beginWith_115 rfl (ij_in (by omega) (by omega)) rfl ?_
        refine J_iinc ((nI j) + 1) [(3, .int ((nI j) + 1)), (2, .int (nI k)), (0, .ref (a 0)), (1, .ref (c 0))] C iX5_beginWith_116 rfl rfl (by decide) rfl ?_
        rw [show (nI j) + 1 = nI (j + 1) from nI_add _ _]
        refine J_goto 91 C iX5_beginWith_119 rfl ?_
        refine J_lvm [(3, .int (nI (j + 1))), (2, .int (nI k)), (0, .ref (a 0)), (1, .ref (c 0))] rfl ?_
        rw [ij_nI (by omega) (by omega)]
        exact ihj
  · refine J_iload_n C iX5_beginWith_27 rfl rfl ?_
    refine J_aload_n C iX5_beginWith_28 rfl rfl ?_
    refine J_get (.int (nI N)) 0 C iX5_beginWith_29 gf_X5_43 rfl rfl ?_
    refine J_icmpge 79 C iX5_beginWith_32 rfl (fun h32 => absurd h32 (nI_ge (a := k) (b := N) (by omega) (by omega))) (fun h32 => ?_)
    refine J_aload_n C iX5_beginWith_35 rfl rfl ?_
    refine J_get (.ref (a 1)) 0 C iX5_beginWith_36 gf_X5_9 rfl rfl ?_
    refine J_iload_n C iX5_beginWith_39 rfl rfl ?_
    refine J_aload_n C iX5_beginWith_40 rfl rfl ?_
    refine J_get (.ref (c 2)) 8 C iX5_beginWith_41 gf_X5_52 rfl rfl ?_
    refine J_iload_n C iX5_beginWith_44 rfl rfl ?_
    refine J_iald 10 C iX5_beginWith_45 rfl (vp_in_nI (n := k) (by omega) (by decide)) ?_
    rw [nI_clamp (n := k) (by omega)]
    refine J_iast (wSt Z a (nI N) 0 0 li (upd (fillN bP pP k) (nI k).toNatClampNeg (bP k)) (fillN bH pH k) (fillN (fun _ => -1) pF k) (fillN (fun _ => -1) pT k) pS pD pC ++ wBk Z c L (nI N) lc sc nm bP bH op f1 f2 l0 l1 l2 l3 l4 l5) 1 C iX5_beginWith_46 rfl (vp_in_nI (n := k) (by omega) (by decide)) rfl ?_
    rw [nI_clamp (n := k) (by omega)]
    refine J_aload_n C iX5_beginWith_47 rfl rfl ?_
    refine J_get (.ref (a 2)) 0 C iX5_beginWith_48 gf_X5_15 rfl rfl ?_
    refine J_iload_n C iX5_beginWith_51 rfl rfl ?_
    refine J_aload_n C iX5_beginWith_52 rfl rfl ?_
    refine J_get (.ref (c 3)) 8 C iX5_beginWith_53 gf_X5_53 rfl rfl ?_
    refine J_iload_n C iX5_beginWith_56 rfl rfl ?_
    refine J_iald 11 C iX5_beginWith_57 rfl (vp_in_nI (n := k) (by omega) (by decide)) ?_
    rw [nI_clamp (n := k) (by omega)]
    refine J_iast (wSt Z a (nI N) 0 0 li (upd (fillN bP pP k) k (bP k)) (upd (fillN bH pH k) (nI k).toNatClampNeg (bH k)) (fillN (fun _ => -1) pF k) (fillN (fun _ => -1) pT k) pS pD pC ++ wBk Z c L (nI N) lc sc nm bP bH op f1 f2 l0 l1 l2 l3 l4 l5) 2 C iX5_beginWith_58 rfl (vp_in_nI (n := k) (by omega) (by decide)) rfl ?_
    rw [nI_clamp (n := k) (by omega)]
    refine J_aload_n C iX5_beginWith_59 rfl rfl ?_
    refine J_get (.ref (a 3)) 0 C iX5_beginWith_60 gf_X5_18 rfl rfl ?_
    refine J_iload_n C iX5_beginWith_63 rfl rfl ?_
    refine J_iconst (-1) C iX5_beginWith_64 rfl ?_
    refine J_iast (wSt Z a (nI N) 0 0 li (upd (fillN bP pP k) k (bP k)) (upd (fillN bH pH k) k (bH k)) (upd (fillN (fun _ => -1) pF k) (nI k).toNatClampNeg (-1)) (fillN (fun _ => -1) pT k) pS pD pC ++ wBk Z c L (nI N) lc sc nm bP bH op f1 f2 l0 l1 l2 l3 l4 l5) 3 C iX5_beginWith_65 rfl (vp_in_nI (n := k) (by omega) (by decide)) rfl ?_
    rw [nI_clamp (n := k) (by omega)]
    refine J_aload_n C iX5_beginWith_66 rfl rfl ?_
    refine J_get (.ref (a 4)) 0 C iX5_beginWith_67 gf_X5_21 rfl rfl ?_
    refine J_iload_n C iX5_beginWith_70 rfl rfl ?_
    refine J_iconst (-1) C iX5_beginWith_71 rfl ?_
    refine J_iast (wSt Z a (nI N) 0 0 li (upd (fillN bP pP k) k (bP k)) (upd (fillN bH pH k) k (bH k)) (upd (fillN (fun _ => -1) pF k) k (-1)) (upd (fillN (fun _ => -1) pT k) (nI k).toNatClampNeg (-1)) pS pD pC ++ wBk Z c L (nI N) lc sc nm bP bH op f1 f2 l0 l1 l2 l3 l4 l5) 4 C iX5_beginWith_72 rfl (vp_in_nI (n := k) (by omega) (by decide)) rfl ?_
    rw [nI_clamp (n := k) (by omega)]
    refine J_iinc ((nI k) + 1) [(2, .int ((nI k) + 1)), (0, .ref (a 0)), (1, .ref (c 0))] C iX5_beginWith_73 rfl rfl (by decide) rfl ?_
    rw [show (nI k) + 1 = nI (k + 1) from nI_add _ _]
    refine J_goto 27 C iX5_beginWith_76 rfl ?_
    refine J_lvm [(2, .int (nI (k + 1))), (0, .ref (a 0)), (1, .ref (c 0))] rfl ?_
    rw [fillN_s, fillN_s, show upd (fillN (fun _ => -1) pF k) k (-1) = fillN (fun _ => -1) pF (k + 1) from fillN_s (fun _ => -1) pF k, show upd (fillN (fun _ => -1) pT k) k (-1) = fillN (fun _ => -1) pT (k + 1) from fillN_s (fun _ => -1) pT k]
    exact ih

