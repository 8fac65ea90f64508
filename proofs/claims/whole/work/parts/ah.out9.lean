/-- the model's nearest one that shades -/
def sbM (P : Nat → Int32) (lk : Nat → Int32) (i : Nat) (x : Int32) : Nat → Option Nat
  | 0 => none
  | k + 1 => if (lk k >>> (x &&& 31)) &&& 1 = 1 ∧ (∀ t, sbM P lk i x k = some t → absI (P k - P i) < absI (P t - P i)) then some k else sbM P lk i x k
def oN : Option Nat → Int32
  | none => -1
  | some k => nI k
theorem sbM_lt {P lk : Nat → Int32} {i : Nat} {x : Int32} : ∀ {k t : Nat}, sbM P lk i x k = some t → t < k
  | 0, _, h => by cases h
  | k + 1, t, h => by
    rw [sbM] at h
    split at h
    · cases h; exact Nat.lt_succ_self _
    · exact Nat.lt_succ_of_lt (sbM_lt h)
set_option maxRecDepth 100000 in
set_option maxHeartbeats 4000000 in
theorem c_X10_fairCurfew {Z : GZ} {l : Launch} {mo pl : Nat → Nat} {N : Nat} {th sz ea tk dp lr dy ca ls mn : Int32} {kn : Bool} {hn va : Nat → Int64} {ha hh dz wh bg en od wi al tp kd fr me wo pc ht fs la kh kf kl sh dk sk : Nat → Int32} {q g : Int32} (hN : N ≤ 12) (ok : kn = true → LkOk N pc ht fs la sh dk) (hP : Pok N pc) (hFT : FTok N fs la)  : Ct Z l yX10_fairCurfew cX10_fairCurfew 3 (some .int) (rmK 11) [.ref (mo 0), .int q, .int g] (wMd Z mo pl th sz ea tk dp lr dy ca kn tp kd fr me va wo pc ht fs la kh kf kl sh dk sk ++ wPl Z pl (nI N) ls mn hn ha hh dz wh bg en od wi al) (fun v w => ((¬ ∃ i, i < N ∧ q = nI i) ∧ v = some (.int 0) ∧ w = (wMd Z mo pl 1 sz ea tk dp lr dy ca kn tp kd fr me va wo pc ht fs la kh kf kl sh dk sk ++ wPl Z pl (nI N) ls mn hn ha hh dz wh bg en od wi al)) ∨ ((∃ i, i < N ∧ q = nI i) ∧ inX g 1 13 = false ∧ v = some (.int 0) ∧ w = (wMd Z mo pl 2 sz ea tk dp lr dy ca kn tp kd fr me va wo pc ht fs la kh kf kl sh dk sk ++ wPl Z pl (nI N) ls mn hn ha hh dz wh bg en od wi al)) ∨ (∃ i n sh2 dk2, i < N ∧ q = nI i ∧ 1 ≤ n ∧ n ≤ 13 ∧ g = nI n ∧ v = some (.int (frX (fcV N pc ht fs la n i) (14 - n)).1) ∧ w = (wMd Z mo pl 0 sz ea tk dp lr dy ca false tp kd fr me va wo pc ht fs la kh kf kl sh2 dk2 sk ++ wPl Z pl (nI N) ls mn hn ha hh dz wh bg en od wi al))) := by
  refine Ct.ofJ (own := RX10) (nm := "fairCurfew") (lv0 := [(0, .ref (mo 0)), (1, .int q), (2, .int g)]) (by decide) rfl rfl (Nat.le_of_ble_eq_true rfl) rfl (fun X hXl C E => ?_)
  subst hXl
  refine J_aload_n C iX10_fairCurfew_0 rfl rfl ?_
  refine J_iconst 0 C iX10_fairCurfew_1 rfl ?_
  refine J_put (wMd Z mo pl 0 sz ea tk dp lr dy ca kn tp kd fr me va wo pc ht fs la kh kf kl sh dk sk ++ wPl Z pl (nI N) ls mn hn ha hh dz wh bg en od wi al) 0 C iX10_fairCurfew_2 pf_X10_70 rfl rfl rfl (Nat.le_of_ble_eq_true rfl) rfl ?_
  refine J_aload_n C iX10_fairCurfew_5 rfl rfl ?_
  refine J_iload_n C iX10_fairCurfew_6 rfl rfl ?_
  refine J_cVb (As := [.int q]) (st := []) (rc2 := (rmK 11).cells) (rs2 := (rmK 11).slots) C iX10_fairCurfew_7 lm_X10_395 yc_X10_isHouse yv_X10_isHouse (c_X10_isHouse2 (q := q) hN) (q0 := 0) rfl rfl rfl [] [] rfl rfl (rmK_le (by omega) (by decide)) (Nat.le_of_ble_eq_true rfl) rfl rfl ?_
  rintro _ _ (⟨i, h_i, rfl, rfl, rfl⟩ | ⟨no_q, rfl, rfl⟩)
  · refine J_st (.int (b2i true) :: []) rfl ?_
    refine J_ws (wMd Z mo pl 0 sz ea tk dp lr dy ca kn tp kd fr me va wo pc ht fs la kh kf kl sh dk sk ++ wPl Z pl (nI N) ls mn hn ha hh dz wh bg en od wi al) (by simp only [List.append_assoc, List.append_nil, List.nil_append]) ?_
    refine J_ifneb 19 C iX10_fairCurfew_10 rfl (fun h10 => ?_) (fun h10 => absurd (h10.symm.trans rfl) (by decide))
    refine J_iload_n C iX10_fairCurfew_19 rfl rfl ?_
    refine J_iconst 1 C iX10_fairCurfew_20 rfl ?_
    refine J_bipush 13 C iX10_fairCurfew_21 rfl ?_
    refine J_cSp (As := [.int g, .int 1, .int 13]) (st := []) C iX10_fairCurfew_23 lm_X10_76 yc_X10_isIn ys_X10_isIn (c_X10_isIn (q := g) (a := 1) (b := 13)) rfl (rmK_le (by omega) (by decide)) (Nat.le_of_ble_eq_true rfl) ⟨rfl, rfl⟩ ?_
    rintro _ rfl
    refine J_st (.int (b2i (inX g 1 13)) :: []) rfl ?_
    refine J_ifeqb 39 C iX10_fairCurfew_26 rfl (fun h26 => ?_) (fun h26 => ?_)
    · refine J_aload_n C iX10_fairCurfew_39 rfl rfl ?_
      refine J_iconst 2 C iX10_fairCurfew_40 rfl ?_
      refine J_cVb (As := [.int 2]) (st := []) (rc2 := (rmK 11).cells) (rs2 := (rmK 11).slots) C iX10_fairCurfew_41 lm_X10_380 yc_X10_no yv_X10_no c_X10_no (q0 := 0) rfl rfl rfl [] [] rfl rfl (rmK_le (by omega) (by decide)) (Nat.le_of_ble_eq_true rfl) rfl rfl ?_
      rintro _ _ ⟨rfl, rfl⟩
      refine J_st (.int 0 :: []) rfl ?_
      refine J_ws (wMd Z mo pl 2 sz ea tk dp lr dy ca kn tp kd fr me va wo pc ht fs la kh kf kl sh dk sk ++ wPl Z pl (nI N) ls mn hn ha hh dz wh bg en od wi al) rfl ?_
      exact J_iret C E iX10_fairCurfew_44 (Or.inr (Or.inl ⟨⟨i, h_i, rfl⟩, h26, rfl, rfl⟩))
    · obtain ⟨n, hn1, hn13, rfl⟩ := hrsI h26
      refine J_aload_n C iX10_fairCurfew_29 rfl rfl ?_
      refine J_iload_n C iX10_fairCurfew_30 rfl rfl ?_
      refine J_iload_n C iX10_fairCurfew_31 rfl rfl ?_
      refine J_iconst 0 C iX10_fairCurfew_32 rfl ?_
      refine J_cVb (As := [.int (nI i), .int (nI n), .int 0]) (st := []) (rc2 := (rmK 11).cells) (rs2 := (rmK 11).slots) C iX10_fairCurfew_33 lm_X10_423 yc_X10_fairest yv_X10_fairest (c_X10_fairest0 (n := n) hN h_i hn1 hn13 hP hFT) (q0 := 0) rfl rfl rfl [] [] rfl rfl (rmK_le (by omega) (by decide)) (Nat.le_of_ble_eq_true rfl) rfl rfl ?_
      rintro _ _ ⟨sh_1, dk_1, rfl, rfl⟩
      refine J_st (.int ((frX (fcV N pc ht fs la n i) (14 - n)).1) :: []) rfl ?_
      refine J_ws (wMd Z mo pl 0 sz ea tk dp lr dy ca false tp kd fr me va wo pc ht fs la kh kf kl sh_1 dk_1 sk ++ wPl Z pl (nI N) ls mn hn ha hh dz wh bg en od wi al) rfl ?_
      refine J_goto 44 C iX10_fairCurfew_36 rfl ?_
      exact J_iret C E iX10_fairCurfew_44 (Or.inr (Or.inr ⟨i, n, sh_1, dk_1, h_i, rfl, hn1, hn13, rfl, rfl, rfl⟩))
  · refine J_st (.int (b2i false) :: []) rfl ?_
    refine J_ws (wMd Z mo pl 0 sz ea tk dp lr dy ca kn tp kd fr me va wo pc ht fs la kh kf kl sh dk sk ++ wPl Z pl (nI N) ls mn hn ha hh dz wh bg en od wi al) (by simp only [List.append_assoc, List.append_nil, List.nil_append]) ?_
    refine J_ifneb 19 C iX10_fairCurfew_10 rfl (fun h10 => absurd (h10.symm.trans rfl) (by decide)) (fun h10 => ?_)
    refine J_aload_n C iX10_fairCurfew_13 rfl rfl ?_
    refine J_iconst 1 C iX10_fairCurfew_14 rfl ?_
    refine J_cVb (As := [.int 1]) (st := []) (rc2 := (rmK 11).cells) (rs2 := (rmK 11).slots) C iX10_fairCurfew_15 lm_X10_380 yc_X10_no yv_X10_no c_X10_no (q0 := 0) rfl rfl rfl [] [] rfl rfl (rmK_le (by omega) (by decide)) (Nat.le_of_ble_eq_true rfl) rfl rfl ?_
    rintro _ _ ⟨rfl, rfl⟩
    refine J_st (.int 0 :: []) rfl ?_
    refine J_ws (wMd Z mo pl 1 sz ea tk dp lr dy ca kn tp kd fr me va wo pc ht fs la kh kf kl sh dk sk ++ wPl Z pl (nI N) ls mn hn ha hh dz wh bg en od wi al) rfl ?_
    exact J_iret C E iX10_fairCurfew_18 (Or.inl ⟨no_q, rfl, rfl⟩)

set_option maxRecDepth 100000 in
set_option maxHeartbeats 4000000 in
theorem c_X10_fairestWall {Z : GZ} {l : Launch} {mo pl : Nat → Nat} {N : Nat} {th sz ea tk dp lr dy ca ls mn : Int32} {kn : Bool} {hn va : Nat → Int64} {ha hh dz wh bg en od wi al tp kd fr me wo pc ht fs la kh kf kl sh dk sk : Nat → Int32} {g : Int32} (hN : N ≤ 12) (ok : kn = true → LkOk N pc ht fs la sh dk) (hP : Pok N pc) (hFT : FTok N fs la)  : Ct Z l yX10_fairestWall cX10_fairestWall 6 (some .int) (rmK 11) [.ref (mo 0), .int g] (wMd Z mo pl th sz ea tk dp lr dy ca kn tp kd fr me va wo pc ht fs la kh kf kl sh dk sk ++ wPl Z pl (nI N) ls mn hn ha hh dz wh bg en od wi al) (fun v w => (inX g 1 13 = false ∧ v = some (.int 0) ∧ w = (wMd Z mo pl 1 sz ea tk dp lr dy ca kn tp kd fr me va wo pc ht fs la kh kf kl sh dk sk ++ wPl Z pl (nI N) ls mn hn ha hh dz wh bg en od wi al)) ∨ (∃ n kn2 sh2 dk2, 1 ≤ n ∧ n ≤ 13 ∧ g = nI n ∧ v = some (.int (owX (fcV N pc ht fs la n) (14 - n) (-1, alM N pc ht fs la) N).1) ∧ w = (wMd Z mo pl 0 sz ea tk dp lr dy ca kn2 tp kd fr me va wo pc ht fs la kh kf kl sh2 dk2 sk ++ wPl Z pl (nI N) ls mn hn ha hh dz wh bg en od wi al) ∧ (kn2 = true → LkOk N pc ht fs la sh2 dk2))) := by
  refine Ct.ofJ (own := RX10) (nm := "fairestWall") (lv0 := [(0, .ref (mo 0)), (1, .int g)]) (by decide) rfl rfl (Nat.le_of_ble_eq_true rfl) rfl (fun X hXl C E => ?_)
  subst hXl
  refine J_aload_n C iX10_fairestWall_0 rfl rfl ?_
  refine J_iconst 0 C iX10_fairestWall_1 rfl ?_
  refine J_put (wMd Z mo pl 0 sz ea tk dp lr dy ca kn tp kd fr me va wo pc ht fs la kh kf kl sh dk sk ++ wPl Z pl (nI N) ls mn hn ha hh dz wh bg en od wi al) 0 C iX10_fairestWall_2 pf_X10_70 rfl rfl rfl (Nat.le_of_ble_eq_true rfl) rfl ?_
  refine J_iload_n C iX10_fairestWall_5 rfl rfl ?_
  refine J_iconst 1 C iX10_fairestWall_6 rfl ?_
  refine J_bipush 13 C iX10_fairestWall_7 rfl ?_
  refine J_cSp (As := [.int g, .int 1, .int 13]) (st := []) C iX10_fairestWall_9 lm_X10_76 yc_X10_isIn ys_X10_isIn (c_X10_isIn (q := g) (a := 1) (b := 13)) rfl (rmK_le (by omega) (by decide)) (Nat.le_of_ble_eq_true rfl) ⟨rfl, rfl⟩ ?_
  rintro _ rfl
  refine J_st (.int (b2i (inX g 1 13)) :: []) rfl ?_
  refine J_ifneb 21 C iX10_fairestWall_12 rfl (fun h12 => ?_) (fun h12 => ?_)
  · obtain ⟨n, hn1, hn13, rfl⟩ := hrsI h12
    refine J_iconst (-1) C iX10_fairestWall_21 rfl ?_
    refine J_istore_n [(2, .int (-1)), (0, .ref (mo 0)), (1, .int (nI n))] C iX10_fairestWall_22 rfl (by decide) rfl ?_
    refine J_aload_n C iX10_fairestWall_23 rfl rfl ?_
    refine J_cVb (As := []) (st := []) (rc2 := (rmK 11).cells) (rs2 := (rmK 11).slots) C iX10_fairestWall_24 lm_X10_389 yc_X10_allLost yv_X10_allLost (c_X10_allLost hN ok) (q0 := 0) rfl rfl rfl [] [] rfl rfl (rmK_le (by omega) (by decide)) (Nat.le_of_ble_eq_true rfl) rfl rfl ?_
    rintro _ _ ⟨kn_1, sh_1, dk_1, rfl, rfl, okk1⟩
    refine J_st (.int (alM N pc ht fs la) :: []) rfl ?_
    refine J_ws (wMd Z mo pl 0 sz ea tk dp lr dy ca kn_1 tp kd fr me va wo pc ht fs la kh kf kl sh_1 dk_1 sk ++ wPl Z pl (nI N) ls mn hn ha hh dz wh bg en od wi al) rfl ?_
    refine J_istore_n [(3, .int (alM N pc ht fs la)), (2, .int (-1)), (0, .ref (mo 0)), (1, .int (nI n))] C iX10_fairestWall_27 rfl (by decide) rfl ?_
    refine J_iconst 0 C iX10_fairestWall_28 rfl ?_
    refine J_istore [(4, .int 0), (3, .int (alM N pc ht fs la)), (2, .int (-1)), (0, .ref (mo 0)), (1, .int (nI n))] C iX10_fairestWall_29 (by decide) rfl ?_
    refine J_lvm [(2, .int (-1)), (3, .int (alM N pc ht fs la)), (4, .int 0), (0, .ref (mo 0)), (1, .int (nI n))] (by rfl) ?_
    refine J_forI (σ := Int32 × Int32 × Bool × (Nat → Int32) × (Nat → Int32)) (fun k q => [(2, .int q.1), (3, .int q.2.1), (4, .int (nI k)), (0, .ref (mo 0)), (1, .int (nI n))]) (fun k q => (wMd Z mo pl 0 sz ea tk dp lr dy ca q.2.2.1 tp kd fr me va wo pc ht fs la kh kf kl q.2.2.2.1 q.2.2.2.2 sk ++ wPl Z pl (nI N) ls mn hn ha hh dz wh bg en od wi al)) (fun k q => (q.2.2.1 = true → LkOk N pc ht fs la q.2.2.2.1 q.2.2.2.2) ∧ owX (fcV N pc ht fs la n) (14 - n) (-1, alM N pc ht fs la) k = (q.1, q.2.1) ∧ q.2.1 < 157) N 0 ((-1), (alM N pc ht fs la), kn_1, sh_1, dk_1) (by omega) ⟨okk1, rfl, al_157 hN⟩ ?_ ?_
    · rintro ⟨be5, le5, kn5, sh5, dk5⟩ hI
      dsimp only at hI ⊢
      refine J_iload C iX10_fairestWall_31 rfl ?_
      refine J_aload_n C iX10_fairestWall_33 rfl rfl ?_
      refine J_get (.ref (pl 0)) 0 C iX10_fairestWall_34 gf_X10_20 rfl rfl ?_
      refine J_get (.int (nI N)) 17 C iX10_fairestWall_37 gf_X10_73 rfl rfl ?_
      refine J_icmpge 74 C iX10_fairestWall_40 rfl (fun h40 => ?_) (fun h40 => absurd (nI_le (Nat.le_refl N) (by omega)) h40)
      refine J_iload_n C iX10_fairestWall_74 rfl rfl ?_
      exact J_iret C E iX10_fairestWall_75 (Or.inr ⟨n, kn5, sh5, dk5, hn1, hn13, rfl, by rw [hI.2.1], rfl, hI.1⟩)
    · rintro k ⟨be5, le5, kn5, sh5, dk5⟩ hk0 hk hI ih
      dsimp only at hI ⊢
      refine J_iload C iX10_fairestWall_31 rfl ?_
      refine J_aload_n C iX10_fairestWall_33 rfl rfl ?_
      refine J_get (.ref (pl 0)) 0 C iX10_fairestWall_34 gf_X10_20 rfl rfl ?_
      refine J_get (.int (nI N)) 17 C iX10_fairestWall_37 gf_X10_73 rfl rfl ?_
      refine J_icmpge 74 C iX10_fairestWall_40 rfl (fun h40 => absurd h40 (nI_ge hk (by omega))) (fun h40 => ?_)
      refine J_aload_n C iX10_fairestWall_43 rfl rfl ?_
      refine J_iload C iX10_fairestWall_44 rfl ?_
      refine J_iload_n C iX10_fairestWall_46 rfl rfl ?_
      refine J_iconst 1 C iX10_fairestWall_47 rfl ?_
      refine J_cVb (As := [.int (nI k), .int (nI n), .int 1]) (st := []) (rc2 := (rmK 11).cells) (rs2 := (rmK 11).slots) C iX10_fairestWall_48 lm_X10_423 yc_X10_fairest yv_X10_fairest (c_X10_fairest1 (n := n) hN hk hn1 hn13 hP hFT) (q0 := 0) rfl rfl rfl [] [] rfl rfl (rmK_le (by omega) (by decide)) (Nat.le_of_ble_eq_true rfl) rfl rfl ?_
      rintro _ _ ⟨sh_1, dk_1, rfl, rfl⟩
      refine J_st (.int ((frX (fcV N pc ht fs la n k) (14 - n)).2) :: []) rfl ?_
      refine J_ws (wMd Z mo pl 0 sz ea tk dp lr dy ca false tp kd fr me va wo pc ht fs la kh kf kl sh_1 dk_1 sk ++ wPl Z pl (nI N) ls mn hn ha hh dz wh bg en od wi al) rfl ?_
      refine J_istore [(5, .int ((frX (fcV N pc ht fs la n k) (14 - n)).2)), (2, .int be5), (3, .int le5), (4, .int (nI k)), (0, .ref (mo 0)), (1, .int (nI n))] C iX10_fairestWall_51 (by decide) rfl ?_
      refine J_iload C iX10_fairestWall_53 rfl ?_
      refine J_iload_n C iX10_fairestWall_55 rfl rfl ?_
      refine J_icmplt 62 C iX10_fairestWall_56 rfl (fun h56 => ?_) (fun h56 => ?_)
      · refine J_iload C iX10_fairestWall_62 rfl ?_
        refine J_istore_n [(2, .int (nI k)), (5, .int ((frX (fcV N pc ht fs la n k) (14 - n)).2)), (3, .int le5), (4, .int (nI k)), (0, .ref (mo 0)), (1, .int (nI n))] C iX10_fairestWall_64 rfl (by decide) rfl ?_
        refine J_iload C iX10_fairestWall_65 rfl ?_
        refine J_istore_n [(3, .int ((frX (fcV N pc ht fs la n k) (14 - n)).2)), (2, .int (nI k)), (5, .int ((frX (fcV N pc ht fs la n k) (14 - n)).2)), (4, .int (nI k)), (0, .ref (mo 0)), (1, .int (nI n))] C iX10_fairestWall_67 rfl (by decide) rfl ?_
        refine J_iinc ((nI k) + 1) [(4, .int ((nI k) + 1)), (3, .int ((frX (fcV N pc ht fs la n k) (14 - n)).2)), (2, .int (nI k)), (5, .int ((frX (fcV N pc ht fs la n k) (14 - n)).2)), (0, .ref (mo 0)), (1, .int (nI n))] C iX10_fairestWall_68 rfl rfl (by decide) rfl ?_
        rw [show (nI k) + 1 = nI (k + 1) from nI_add _ _]
        refine J_goto 31 C iX10_fairestWall_71 rfl ?_
        refine J_lvm [(2, .int (nI k)), (3, .int ((frX (fcV N pc ht fs la n k) (14 - n)).2)), (4, .int (nI (k + 1))), (0, .ref (mo 0)), (1, .int (nI n))] rfl ?_
        exact ih (nI k, (frX (fcV N pc ht fs la n k) (14 - n)).2, false, sh_1, dk_1) (by dsimp only; exact ⟨fun q => absurd q (by decide), by rw [ow_s hI.2.1 hI.2.2, if_pos h56], Int32.lt_trans h56 hI.2.2⟩)
      · refine J_goto 68 C iX10_fairestWall_59 rfl ?_
        refine J_iinc ((nI k) + 1) [(4, .int ((nI k) + 1)), (5, .int ((frX (fcV N pc ht fs la n k) (14 - n)).2)), (2, .int be5), (3, .int le5), (0, .ref (mo 0)), (1, .int (nI n))] C iX10_fairestWall_68 rfl rfl (by decide) rfl ?_
        rw [show (nI k) + 1 = nI (k + 1) from nI_add _ _]
        refine J_goto 31 C iX10_fairestWall_71 rfl ?_
        refine J_lvm [(2, .int be5), (3, .int le5), (4, .int (nI (k + 1))), (0, .ref (mo 0)), (1, .int (nI n))] rfl ?_
        exact ih (be5, le5, false, sh_1, dk_1) (by dsimp only; exact ⟨fun q => absurd q (by decide), by rw [ow_s hI.2.1 hI.2.2, if_neg h56], hI.2.2⟩)
  · refine J_aload_n C iX10_fairestWall_15 rfl rfl ?_
    refine J_iconst 1 C iX10_fairestWall_16 rfl ?_
    refine J_cVb (As := [.int 1]) (st := []) (rc2 := (rmK 11).cells) (rs2 := (rmK 11).slots) C iX10_fairestWall_17 lm_X10_380 yc_X10_no yv_X10_no c_X10_no (q0 := 0) rfl rfl rfl [] [] rfl rfl (rmK_le (by omega) (by decide)) (Nat.le_of_ble_eq_true rfl) rfl rfl ?_
    rintro _ _ ⟨rfl, rfl⟩
    refine J_st (.int 0 :: []) rfl ?_
    refine J_ws (wMd Z mo pl 1 sz ea tk dp lr dy ca kn tp kd fr me va wo pc ht fs la kh kf kl sh dk sk ++ wPl Z pl (nI N) ls mn hn ha hh dz wh bg en od wi al) rfl ?_
    exact J_iret C E iX10_fairestWall_20 (Or.inl ⟨h12, rfl, rfl⟩)

set_option maxRecDepth 100000 in
set_option maxHeartbeats 4000000 in
theorem c_X10_shadedBy {Z : GZ} {l : Launch} {mo pl : Nat → Nat} {N : Nat} {th sz ea tk dp lr dy ca ls mn : Int32} {kn : Bool} {hn va : Nat → Int64} {ha hh dz wh bg en od wi al tp kd fr me wo pc ht fs la kh kf kl sh dk sk : Nat → Int32} {q x : Int32} (hN : N ≤ 12) (ok : kn = true → LkOk N pc ht fs la sh dk)  : Ct Z l yX10_shadedBy cX10_shadedBy 5 (some .int) (rmK 9) [.ref (mo 0), .int q, .int x] (wMd Z mo pl th sz ea tk dp lr dy ca kn tp kd fr me va wo pc ht fs la kh kf kl sh dk sk ++ wPl Z pl (nI N) ls mn hn ha hh dz wh bg en od wi al) (fun v w => ((¬ ∃ i, i < N ∧ q = nI i ∧ ¬ (x < 0 ∨ 24 ≤ x)) ∧ v = some (.int 0) ∧ w = (wMd Z mo pl 1 sz ea tk dp lr dy ca kn tp kd fr me va wo pc ht fs la kh kf kl sh dk sk ++ wPl Z pl (nI N) ls mn hn ha hh dz wh bg en od wi al)) ∨ (∃ i kn2 sh2 dk2, i < N ∧ q = nI i ∧ ¬ (x < 0 ∨ 24 ≤ x) ∧ sbM pc (lkM pc ht fs la i) i x N = none ∧ v = some (.int 0) ∧ w = (wMd Z mo pl 2 sz ea tk dp lr dy ca kn2 tp kd fr me va wo pc ht fs la kh kf kl sh2 dk2 sk ++ wPl Z pl (nI N) ls mn hn ha hh dz wh bg en od wi al) ∧ (kn2 = true → LkOk N pc ht fs la sh2 dk2)) ∨ (∃ i t kn2 sh2 dk2, i < N ∧ q = nI i ∧ ¬ (x < 0 ∨ 24 ≤ x) ∧ sbM pc (lkM pc ht fs la i) i x N = some t ∧ v = some (.int (nI t)) ∧ w = (wMd Z mo pl 0 sz ea tk dp lr dy ca kn2 tp kd fr me va wo pc ht fs la kh kf kl sh2 dk2 sk ++ wPl Z pl (nI N) ls mn hn ha hh dz wh bg en od wi al) ∧ (kn2 = true → LkOk N pc ht fs la sh2 dk2))) := by
  refine Ct.ofJ (own := RX10) (nm := "shadedBy") (lv0 := [(0, .ref (mo 0)), (1, .int q), (2, .int x)]) (by decide) rfl rfl (Nat.le_of_ble_eq_true rfl) rfl (fun X hXl C E => ?_)
  subst hXl
  refine J_aload_n C iX10_shadedBy_0 rfl rfl ?_
  refine J_iconst 0 C iX10_shadedBy_1 rfl ?_
  refine J_put (wMd Z mo pl 0 sz ea tk dp lr dy ca kn tp kd fr me va wo pc ht fs la kh kf kl sh dk sk ++ wPl Z pl (nI N) ls mn hn ha hh dz wh bg en od wi al) 0 C iX10_shadedBy_2 pf_X10_70 rfl rfl rfl (Nat.le_of_ble_eq_true rfl) rfl ?_
  refine J_aload_n C iX10_shadedBy_5 rfl rfl ?_
  refine J_iload_n C iX10_shadedBy_6 rfl rfl ?_
  refine J_cVb (As := [.int q]) (st := []) (rc2 := (rmK 9).cells) (rs2 := (rmK 9).slots) C iX10_shadedBy_7 lm_X10_395 yc_X10_isHouse yv_X10_isHouse (c_X10_isHouse2 (q := q) hN) (q0 := 0) rfl rfl rfl [] [] rfl rfl (rmK_le (by omega) (by decide)) (Nat.le_of_ble_eq_true rfl) rfl rfl ?_
  rintro _ _ (⟨i, h_i, rfl, rfl, rfl⟩ | ⟨no_q, rfl, rfl⟩)
  · refine J_st (.int (b2i true) :: []) rfl ?_
    refine J_ws (wMd Z mo pl 0 sz ea tk dp lr dy ca kn tp kd fr me va wo pc ht fs la kh kf kl sh dk sk ++ wPl Z pl (nI N) ls mn hn ha hh dz wh bg en od wi al) (by simp only [List.append_assoc, List.append_nil, List.nil_append]) ?_
    refine J_ifeqb 20 C iX10_shadedBy_10 rfl (fun h10 => absurd (h10.symm.trans rfl) (by decide)) (fun h10 => ?_)
    refine J_iload_n C iX10_shadedBy_13 rfl rfl ?_
    refine J_cSb (As := [.int x]) (st := []) (rc2 := (rmK 9).cells) (rs2 := (rmK 9).slots) C iX10_shadedBy_14 lm_X10_405 yc_X10_isHour ys_X10_isHour (c_X10_isHour2 (q := x)) [] (wMd Z mo pl 0 sz ea tk dp lr dy ca kn tp kd fr me va wo pc ht fs la kh kf kl sh dk sk ++ wPl Z pl (nI N) ls mn hn ha hh dz wh bg en od wi al) rfl rfl (rmK_le (by omega) (by decide)) (Nat.le_of_ble_eq_true rfl) rfl rfl ?_
    rintro _ _ (⟨hr_x, rfl, rfl⟩ | ⟨hr_x, rfl, rfl⟩)
    · refine J_st (.int (b2i true) :: []) rfl ?_
      refine J_ws (wMd Z mo pl 0 sz ea tk dp lr dy ca kn tp kd fr me va wo pc ht fs la kh kf kl sh dk sk ++ wPl Z pl (nI N) ls mn hn ha hh dz wh bg en od wi al) (by simp only [List.append_assoc, List.append_nil, List.nil_append]) ?_
      refine J_ifneb 26 C iX10_shadedBy_17 rfl (fun h17 => ?_) (fun h17 => absurd (h17.symm.trans rfl) (by decide))
      refine J_iconst (-1) C iX10_shadedBy_26 rfl ?_
      refine J_istore_n [(3, .int (-1)), (0, .ref (mo 0)), (1, .int (nI i)), (2, .int x)] C iX10_shadedBy_27 rfl (by decide) rfl ?_
      refine J_iconst 0 C iX10_shadedBy_28 rfl ?_
      refine J_istore [(4, .int 0), (3, .int (-1)), (0, .ref (mo 0)), (1, .int (nI i)), (2, .int x)] C iX10_shadedBy_29 (by decide) rfl ?_
      refine J_lvm [(3, .int (-1)), (4, .int 0), (0, .ref (mo 0)), (1, .int (nI i)), (2, .int x)] (by rfl) ?_
      refine J_forI (σ := Int32 × Bool × (Nat → Int32) × (Nat → Int32)) (fun k q => [(3, .int q.1), (4, .int (nI k)), (0, .ref (mo 0)), (1, .int (nI i)), (2, .int x)]) (fun k q => (wMd Z mo pl 0 sz ea tk dp lr dy ca q.2.1 tp kd fr me va wo pc ht fs la kh kf kl q.2.2.1 q.2.2.2 sk ++ wPl Z pl (nI N) ls mn hn ha hh dz wh bg en od wi al)) (fun k q => (q.2.1 = true → LkOk N pc ht fs la q.2.2.1 q.2.2.2) ∧ q.1 = oN (sbM pc (lkM pc ht fs la i) i x k)) N 0 ((-1), kn, sh, dk) (by omega) ⟨ok, rfl⟩ ?_ ?_
      · rintro ⟨be5, kn5, sh5, dk5⟩ hI
        dsimp only at hI ⊢
        refine J_iload C iX10_shadedBy_31 rfl ?_
        refine J_aload_n C iX10_shadedBy_33 rfl rfl ?_
        refine J_get (.ref (pl 0)) 0 C iX10_shadedBy_34 gf_X10_20 rfl rfl ?_
        refine J_get (.int (nI N)) 17 C iX10_shadedBy_37 gf_X10_73 rfl rfl ?_
        refine J_icmpge 104 C iX10_shadedBy_40 rfl (fun h40 => ?_) (fun h40 => absurd (nI_le (Nat.le_refl N) (by omega)) h40)
        rcases hsb : sbM pc (lkM pc ht fs la i) i x N with _ | t
        · have hbe : be5 = -1 := by rw [hI.2, hsb, oN]
          subst hbe
          refine J_iload_n C iX10_shadedBy_104 rfl rfl ?_
          refine J_iconst (-1) C iX10_shadedBy_105 rfl ?_
          refine J_icmpne 117 C iX10_shadedBy_106 rfl (fun h106 => absurd (by decide) h106) (fun h106 => ?_)
          refine J_aload_n C iX10_shadedBy_109 rfl rfl ?_
          refine J_iconst 2 C iX10_shadedBy_110 rfl ?_
          refine J_cVb (As := [.int 2]) (st := []) (rc2 := (rmK 9).cells) (rs2 := (rmK 9).slots) C iX10_shadedBy_111 lm_X10_380 yc_X10_no yv_X10_no c_X10_no (q0 := 0) rfl rfl rfl [] [] rfl rfl (rmK_le (by omega) (by decide)) (Nat.le_of_ble_eq_true rfl) rfl rfl ?_
          rintro _ _ ⟨rfl, rfl⟩
          refine J_st (.int 0 :: []) rfl ?_
          refine J_ws (wMd Z mo pl 2 sz ea tk dp lr dy ca kn5 tp kd fr me va wo pc ht fs la kh kf kl sh5 dk5 sk ++ wPl Z pl (nI N) ls mn hn ha hh dz wh bg en od wi al) rfl ?_
          refine J_goto 118 C iX10_shadedBy_114 rfl ?_
          exact J_iret C E iX10_shadedBy_118 (Or.inr (Or.inl ⟨i, kn5, sh5, dk5, h_i, rfl, hr_x, hsb, rfl, rfl, hI.1⟩))
        · have hbe : be5 = nI t := by rw [hI.2, hsb, oN]
          subst hbe
          have htk := sbM_lt hsb
          refine J_iload_n C iX10_shadedBy_104 rfl rfl ?_
          refine J_iconst (-1) C iX10_shadedBy_105 rfl ?_
          refine J_icmpne 117 C iX10_shadedBy_106 rfl (fun h106 => ?_) (fun h106 => absurd h106 (nI_ne1 (by omega)))
          refine J_iload_n C iX10_shadedBy_117 rfl rfl ?_
          exact J_iret C E iX10_shadedBy_118 (Or.inr (Or.inr ⟨i, t, kn5, sh5, dk5, h_i, rfl, hr_x, hsb, rfl, rfl, hI.1⟩))
      · rintro k ⟨be5, kn5, sh5, dk5⟩ hk0 hk hI ih
        dsimp only at hI ⊢
        refine J_iload C iX10_shadedBy_31 rfl ?_
        refine J_aload_n C iX10_shadedBy_33 rfl rfl ?_
        refine J_get (.ref (pl 0)) 0 C iX10_shadedBy_34 gf_X10_20 rfl rfl ?_
        refine J_get (.int (nI N)) 17 C iX10_shadedBy_37 gf_X10_73 rfl rfl ?_
        refine J_icmpge 104 C iX10_shadedBy_40 rfl (fun h40 => absurd h40 (nI_ge hk (by omega))) (fun h40 => ?_)
        refine J_aload_n C iX10_shadedBy_43 rfl rfl ?_
        refine J_iload_n C iX10_shadedBy_44 rfl rfl ?_
        refine J_iload C iX10_shadedBy_45 rfl ?_
        refine J_iload_n C iX10_shadedBy_47 rfl rfl ?_
        refine J_cVb (As := [.int (nI i), .int (nI k), .int x]) (st := []) (rc2 := (rmK 9).cells) (rs2 := (rmK 9).slots) C iX10_shadedBy_48 lm_X10_408 yc_X10_isShade yv_X10_isShade (c_X10_isShade (x := x) hN hI.1 h_i hk) (q0 := 0) rfl rfl rfl [] [] rfl rfl (rmK_le (by omega) (by decide)) (Nat.le_of_ble_eq_true rfl) rfl rfl ?_
        rintro _ _ ⟨sh_1, dk_1, rfl, rfl, okk1⟩
        refine J_st (.int (b2i (decide ((lkM pc ht fs la i k >>> (x &&& 31)) &&& 1 = 1))) :: []) rfl ?_
        refine J_ws (wMd Z mo pl 0 sz ea tk dp lr dy ca true tp kd fr me va wo pc ht fs la kh kf kl sh_1 dk_1 sk ++ wPl Z pl (nI N) ls mn hn ha hh dz wh bg en od wi al) rfl ?_
        refine J_ifeqb 98 C iX10_shadedBy_51 rfl (fun h51 => ?_) (fun h51 => ?_)
        · refine J_iinc ((nI k) + 1) [(4, .int ((nI k) + 1)), (3, .int be5), (0, .ref (mo 0)), (1, .int (nI i)), (2, .int x)] C iX10_shadedBy_98 rfl rfl (by decide) rfl ?_
          rw [show (nI k) + 1 = nI (k + 1) from nI_add _ _]
          refine J_goto 31 C iX10_shadedBy_101 rfl ?_
          refine J_lvm [(3, .int be5), (4, .int (nI (k + 1))), (0, .ref (mo 0)), (1, .int (nI i)), (2, .int x)] rfl ?_
          exact ih (be5, true, sh_1, dk_1) (by dsimp only; exact ⟨fun _ => okk1, by rw [sbM, if_neg (fun q => of_decide_eq_false h51 q.1)]; exact hI.2⟩)
        · rcases hsb : sbM pc (lkM pc ht fs la i) i x k with _ | t
          · have hbe : be5 = -1 := by rw [hI.2, hsb, oN]
            subst hbe
            refine J_iload_n C iX10_shadedBy_54 rfl rfl ?_
            refine J_iconst (-1) C iX10_shadedBy_55 rfl ?_
            refine J_icmpeq 95 C iX10_shadedBy_56 rfl (fun h56 => ?_) (fun h56 => absurd (by decide) h56)
            refine J_iload C iX10_shadedBy_95 rfl ?_
            refine J_istore_n [(3, .int (nI k)), (4, .int (nI k)), (0, .ref (mo 0)), (1, .int (nI i)), (2, .int x)] C iX10_shadedBy_97 rfl (by decide) rfl ?_
            refine J_iinc ((nI k) + 1) [(4, .int ((nI k) + 1)), (3, .int (nI k)), (0, .ref (mo 0)), (1, .int (nI i)), (2, .int x)] C iX10_shadedBy_98 rfl rfl (by decide) rfl ?_
            rw [show (nI k) + 1 = nI (k + 1) from nI_add _ _]
            refine J_goto 31 C iX10_shadedBy_101 rfl ?_
            refine J_lvm [(3, .int (nI k)), (4, .int (nI (k + 1))), (0, .ref (mo 0)), (1, .int (nI i)), (2, .int x)] rfl ?_
            exact ih (nI k, true, sh_1, dk_1) (by dsimp only; exact ⟨fun _ => okk1, by rw [sbM, if_pos ⟨of_decide_eq_true h51, fun t' e => by rw [hsb] at e; cases e⟩, oN]⟩)
          · have hbe : be5 = nI t := by rw [hI.2, hsb, oN]
            subst hbe
            have htk := sbM_lt hsb
            refine J_iload_n C iX10_shadedBy_54 rfl rfl ?_
            refine J_iconst (-1) C iX10_shadedBy_55 rfl ?_
            refine J_icmpeq 95 C iX10_shadedBy_56 rfl (fun h56 => absurd h56 (nI_ne1 (by omega))) (fun h56 => ?_)
            refine J_aload_n C iX10_shadedBy_59 rfl rfl ?_
            refine J_get (.ref (mo 7)) 0 C iX10_shadedBy_60 gf_X10_40 rfl rfl ?_
            refine J_iload C iX10_shadedBy_63 rfl ?_
            refine J_iald 7 C iX10_shadedBy_65 rfl (vp_in_nI (n := k) (by omega) (by decide)) ?_
            rw [nI_clamp (n := k) (by omega)]
            refine J_aload_n C iX10_shadedBy_66 rfl rfl ?_
            refine J_get (.ref (mo 7)) 0 C iX10_shadedBy_67 gf_X10_40 rfl rfl ?_
            refine J_iload_n C iX10_shadedBy_70 rfl rfl ?_
            refine J_iald 7 C iX10_shadedBy_71 rfl (vp_in_nI (n := i) (by omega) (by decide)) ?_
            rw [nI_clamp (n := i) (by omega)]
            refine J_isub C iX10_shadedBy_72 ?_
            refine J_abs C iX10_shadedBy_73 (tsg_in (i := 1617) (by decide +kernel) rfl) ma_abs_1 ma_i ma_abs_2 (by decide) (Nat.le_of_ble_eq_true rfl) ?_
            refine J_aload_n C iX10_shadedBy_76 rfl rfl ?_
            refine J_get (.ref (mo 7)) 0 C iX10_shadedBy_77 gf_X10_40 rfl rfl ?_
            refine J_iload_n C iX10_shadedBy_80 rfl rfl ?_
            refine J_iald 7 C iX10_shadedBy_81 rfl (vp_in_nI (n := t) (by omega) (by decide)) ?_
            rw [nI_clamp (n := t) (by omega)]
            refine J_aload_n C iX10_shadedBy_82 rfl rfl ?_
            refine J_get (.ref (mo 7)) 0 C iX10_shadedBy_83 gf_X10_40 rfl rfl ?_
            refine J_iload_n C iX10_shadedBy_86 rfl rfl ?_
            refine J_iald 7 C iX10_shadedBy_87 rfl (vp_in_nI (n := i) (by omega) (by decide)) ?_
            rw [nI_clamp (n := i) (by omega)]
            refine J_isub C iX10_shadedBy_88 ?_
            refine J_abs C iX10_shadedBy_89 (tsg_in (i := 1617) (by decide +kernel) rfl) ma_abs_1 ma_i ma_abs_2 (by decide) (Nat.le_of_ble_eq_true rfl) ?_
            refine J_icmpge 98 C iX10_shadedBy_92 rfl (fun h92 => ?_) (fun h92 => ?_)
            · refine J_iinc ((nI k) + 1) [(4, .int ((nI k) + 1)), (3, .int (nI t)), (0, .ref (mo 0)), (1, .int (nI i)), (2, .int x)] C iX10_shadedBy_98 rfl rfl (by decide) rfl ?_
              rw [show (nI k) + 1 = nI (k + 1) from nI_add _ _]
              refine J_goto 31 C iX10_shadedBy_101 rfl ?_
              refine J_lvm [(3, .int (nI t)), (4, .int (nI (k + 1))), (0, .ref (mo 0)), (1, .int (nI i)), (2, .int x)] rfl ?_
              exact ih (nI t, true, sh_1, dk_1) (by dsimp only; exact ⟨fun _ => okk1, by rw [sbM, if_neg (fun q => Int32.not_lt.mpr h92 (q.2 t hsb)), hsb, oN]⟩)
            · refine J_iload C iX10_shadedBy_95 rfl ?_
              refine J_istore_n [(3, .int (nI k)), (4, .int (nI k)), (0, .ref (mo 0)), (1, .int (nI i)), (2, .int x)] C iX10_shadedBy_97 rfl (by decide) rfl ?_
              refine J_iinc ((nI k) + 1) [(4, .int ((nI k) + 1)), (3, .int (nI k)), (0, .ref (mo 0)), (1, .int (nI i)), (2, .int x)] C iX10_shadedBy_98 rfl rfl (by decide) rfl ?_
              rw [show (nI k) + 1 = nI (k + 1) from nI_add _ _]
              refine J_goto 31 C iX10_shadedBy_101 rfl ?_
              refine J_lvm [(3, .int (nI k)), (4, .int (nI (k + 1))), (0, .ref (mo 0)), (1, .int (nI i)), (2, .int x)] rfl ?_
              exact ih (nI k, true, sh_1, dk_1) (by dsimp only; exact ⟨fun _ => okk1, by rw [sbM, if_pos ⟨of_decide_eq_true h51, fun t' e => by rw [hsb] at e; cases e; exact Int32.not_le.mp h92⟩, oN]⟩)
    · refine J_st (.int (b2i false) :: []) rfl ?_
      refine J_ws (wMd Z mo pl 0 sz ea tk dp lr dy ca kn tp kd fr me va wo pc ht fs la kh kf kl sh dk sk ++ wPl Z pl (nI N) ls mn hn ha hh dz wh bg en od wi al) (by simp only [List.append_assoc, List.append_nil, List.nil_append]) ?_
      refine J_ifneb 26 C iX10_shadedBy_17 rfl (fun h17 => absurd (h17.symm.trans rfl) (by decide)) (fun h17 => ?_)
      refine J_aload_n C iX10_shadedBy_20 rfl rfl ?_
      refine J_iconst 1 C iX10_shadedBy_21 rfl ?_
      refine J_cVb (As := [.int 1]) (st := []) (rc2 := (rmK 9).cells) (rs2 := (rmK 9).slots) C iX10_shadedBy_22 lm_X10_380 yc_X10_no yv_X10_no c_X10_no (q0 := 0) rfl rfl rfl [] [] rfl rfl (rmK_le (by omega) (by decide)) (Nat.le_of_ble_eq_true rfl) rfl rfl ?_
      rintro _ _ ⟨rfl, rfl⟩
      refine J_st (.int 0 :: []) rfl ?_
      refine J_ws (wMd Z mo pl 1 sz ea tk dp lr dy ca kn tp kd fr me va wo pc ht fs la kh kf kl sh dk sk ++ wPl Z pl (nI N) ls mn hn ha hh dz wh bg en od wi al) rfl ?_
      exact J_iret C E iX10_shadedBy_25 (Or.inl ⟨(fun ⟨a, b, c, d⟩ => d hr_x), rfl, rfl⟩)
  · refine J_st (.int (b2i false) :: []) rfl ?_
    refine J_ws (wMd Z mo pl 0 sz ea tk dp lr dy ca kn tp kd fr me va wo pc ht fs la kh kf kl sh dk sk ++ wPl Z pl (nI N) ls mn hn ha hh dz wh bg en od wi al) (by simp only [List.append_assoc, List.append_nil, List.nil_append]) ?_
    refine J_ifeqb 20 C iX10_shadedBy_10 rfl (fun h10 => ?_) (fun h10 => absurd (h10.symm.trans rfl) (by decide))
    refine J_aload_n C iX10_shadedBy_20 rfl rfl ?_
    refine J_iconst 1 C iX10_shadedBy_21 rfl ?_
    refine J_cVb (As := [.int 1]) (st := []) (rc2 := (rmK 9).cells) (rs2 := (rmK 9).slots) C iX10_shadedBy_22 lm_X10_380 yc_X10_no yv_X10_no c_X10_no (q0 := 0) rfl rfl rfl [] [] rfl rfl (rmK_le (by omega) (by decide)) (Nat.le_of_ble_eq_true rfl) rfl rfl ?_
    rintro _ _ ⟨rfl, rfl⟩
    refine J_st (.int 0 :: []) rfl ?_
    refine J_ws (wMd Z mo pl 1 sz ea tk dp lr dy ca kn tp kd fr me va wo pc ht fs la kh kf kl sh dk sk ++ wPl Z pl (nI N) ls mn hn ha hh dz wh bg en od wi al) rfl ?_
    exact J_iret C E iX10_shadedBy_25 (Or.inl ⟨(fun ⟨a, b, c, d⟩ => no_q ⟨a, b, c⟩), rfl, rfl⟩)

