set_option maxRecDepth 100000 in
set_option maxHeartbeats 4000000 in
theorem c_X10_eat {Z : GZ} {l : Launch} {mo pl pn : Nat → Nat} {th sz ea lr dy ca hs ls : Int32} {kn : Bool} {hn va : Nat → Int64} {ha hh dz wh bg en tp kd fr wo pc ht fs la kh kf kl sh dk sk : Nat → Int32} {Lt : Nat} {tq : Nat → Nat} {vq : Nat → Int64} {i s d : Nat} {me od wi al : Nat → Int32} {c : Int32} {k : Nat} (hc : c = km k) (hk : k < 43) (hk41 : k ≠ 41) (hk42 : k ≠ 42) (hLt : Lt ≤ 400) (hkd : ∀ i, i ≤ Lt → kd i = km (tq i)) (htq : ∀ i, tq i < 43) (hend : ∀ i, i ≤ Lt → tq i ≠ 41 → tq i ≠ 42 → i < Lt) (hva : ∀ i, i ≤ Lt → tq i = 39 ∨ tq i = 40 → va i = vq i) (hi : i ≤ Lt)  : Ct Z l yX10_eat cX10_eat 2 (some .boolean) (rmK 0) [.ref (mo 0), .int c] (wMd Z mo pl th sz ea (nI i) (nI d) lr dy ca kn tp kd fr me va wo pc ht fs la kh kf kl sh dk sk ++ wPl Z pn hs ls (nI s) hn ha hh dz wh bg en od wi al) (fun v w => (v = some (.int (b2i true)) ∧ w = (wMd Z mo pl th sz ea (nI (i + 1)) (nI d) lr dy ca kn tp kd fr me va wo pc ht fs la kh kf kl sh dk sk ++ wPl Z pn hs ls (nI s) hn ha hh dz wh bg en od wi al) ∧ tq i = k ∧ i < Lt) ∨ (v = some (.int (b2i false)) ∧ w = (wMd Z mo pl th sz ea (nI i) (nI d) lr dy ca kn tp kd fr me va wo pc ht fs la kh kf kl sh dk sk ++ wPl Z pn hs ls (nI s) hn ha hh dz wh bg en od wi al) ∧ tq i ≠ k)) := by
  refine Ct.ofJ (own := RX10) (nm := "eat") (lv0 := [(0, .ref (mo 0)), (1, .int c)]) (by decide) rfl rfl (Nat.le_of_ble_eq_true rfl) rfl (fun X hXl C E => ?_)
  subst hXl
  refine J_aload_n C iX10_eat_0 rfl rfl ?_
  refine J_get (.ref (mo 2)) 0 C iX10_eat_1 gf_X10_24 rfl rfl ?_
  refine J_aload_n C iX10_eat_4 rfl rfl ?_
  refine J_get (.int (nI i)) 0 C iX10_eat_5 gf_X10_263 rfl rfl ?_
  refine J_iald 2 C iX10_eat_8 rfl (vp_in_nI (n := i) (by omega) (by decide)) ?_
  rw [nI_clamp (n := i) (by omega)]
  refine J_iload_n C iX10_eat_9 rfl rfl ?_
  refine J_icmpeq 15 C iX10_eat_10 rfl (fun h10 => ?_) (fun h10 => ?_)
  · have t10 : tq i = k := (kdT (k := k) (hkd i hi) (htq i) hk hc).mp h10
    refine J_aload_n C iX10_eat_15 rfl rfl ?_
    refine J_dup C iX10_eat_16 rfl ?_
    refine J_get (.int (nI i)) 0 C iX10_eat_17 gf_X10_263 rfl rfl ?_
    refine J_iconst 1 C iX10_eat_20 rfl ?_
    refine J_iadd C iX10_eat_21 ?_
    rw [show (nI i) + 1 = nI (i + 1) from nI_add _ _]
    refine J_put (wMd Z mo pl th sz ea (nI (i + 1)) (nI d) lr dy ca kn tp kd fr me va wo pc ht fs la kh kf kl sh dk sk ++ wPl Z pn hs ls (nI s) hn ha hh dz wh bg en od wi al) 0 C iX10_eat_22 pf_X10_263 rfl rfl rfl (Nat.le_of_ble_eq_true rfl) rfl ?_
    refine J_iconst 1 C iX10_eat_25 rfl ?_
    exact J_zret C E iX10_eat_26 rfl (Or.inl ⟨rfl, rfl, t10, hend i hi (fun z => hk41 (t10.symm.trans z)) (fun z => hk42 (t10.symm.trans z))⟩)
  · have n10 : tq i ≠ k := fun z => h10 ((kdT (k := k) (hkd i hi) (htq i) hk hc).mpr z)
    refine J_iconst 0 C iX10_eat_13 rfl ?_
    exact J_zret C E iX10_eat_14 rfl (Or.inr ⟨rfl, rfl, n10⟩)

set_option maxRecDepth 100000 in
set_option maxHeartbeats 4000000 in
theorem c_X10_eatAs {Z : GZ} {l : Launch} {mo pl pn : Nat → Nat} {th sz ea lr dy ca hs ls : Int32} {kn : Bool} {hn va : Nat → Int64} {ha hh dz wh bg en tp kd fr wo pc ht fs la kh kf kl sh dk sk : Nat → Int32} {Lt : Nat} {tq : Nat → Nat} {vq : Nat → Int64} {i s d : Nat} {me od wi al : Nat → Int32} {c : Int32} {k : Nat} (hc : c = km k) (hk : k < 43) (hk41 : k ≠ 41) (hk42 : k ≠ 42) (hLt : Lt ≤ 400) (hkd : ∀ i, i ≤ Lt → kd i = km (tq i)) (htq : ∀ i, tq i < 43) (hend : ∀ i, i ≤ Lt → tq i ≠ 41 → tq i ≠ 42 → i < Lt) (hva : ∀ i, i ≤ Lt → tq i = 39 ∨ tq i = 40 → va i = vq i) (hi : i ≤ Lt) {q : Int32}  : Ct Z l yX10_eatAs cX10_eatAs 3 (some .boolean) (rmK 1) [.ref (mo 0), .int c, .int q] (wMd Z mo pl th sz ea (nI i) (nI d) lr dy ca kn tp kd fr me va wo pc ht fs la kh kf kl sh dk sk ++ wPl Z pn hs ls (nI s) hn ha hh dz wh bg en od wi al) (fun v w => (v = some (.int (b2i true)) ∧ w = (wMd Z mo pl th sz ea (nI (i + 1)) (nI d) lr dy ca kn tp kd fr (upd me i q) va wo pc ht fs la kh kf kl sh dk sk ++ wPl Z pn hs ls (nI s) hn ha hh dz wh bg en od wi al) ∧ tq i = k ∧ i < Lt) ∨ (v = some (.int (b2i false)) ∧ w = (wMd Z mo pl th sz ea (nI i) (nI d) lr dy ca kn tp kd fr (upd me i q) va wo pc ht fs la kh kf kl sh dk sk ++ wPl Z pn hs ls (nI s) hn ha hh dz wh bg en od wi al) ∧ tq i ≠ k)) := by
  refine Ct.ofJ (own := RX10) (nm := "eatAs") (lv0 := [(0, .ref (mo 0)), (1, .int c), (2, .int q)]) (by decide) rfl rfl (Nat.le_of_ble_eq_true rfl) rfl (fun X hXl C E => ?_)
  subst hXl
  refine J_aload_n C iX10_eatAs_0 rfl rfl ?_
  refine J_get (.ref (mo 4)) 0 C iX10_eatAs_1 gf_X10_30 rfl rfl ?_
  refine J_aload_n C iX10_eatAs_4 rfl rfl ?_
  refine J_get (.int (nI i)) 0 C iX10_eatAs_5 gf_X10_263 rfl rfl ?_
  refine J_iload_n C iX10_eatAs_8 rfl rfl ?_
  refine J_iast (wMd Z mo pl th sz ea (nI i) (nI d) lr dy ca kn tp kd fr (upd me (nI i).toNatClampNeg q) va wo pc ht fs la kh kf kl sh dk sk ++ wPl Z pn hs ls (nI s) hn ha hh dz wh bg en od wi al) 4 C iX10_eatAs_9 rfl (vp_in_nI (n := i) (by omega) (by decide)) rfl ?_
  rw [nI_clamp (n := i) (by omega)]
  refine J_aload_n C iX10_eatAs_10 rfl rfl ?_
  refine J_iload_n C iX10_eatAs_11 rfl rfl ?_
  refine J_cV (As := [.int c]) (st := []) (rc2 := (rmK 1).cells) (rs2 := (rmK 1).slots) C iX10_eatAs_12 lm_X10_266 yc_X10_eat yv_X10_eat (c_X10_eat hc hk hk41 hk42 hLt hkd htq hend hva hi) (q0 := 0) rfl rfl rfl rfl (rmK_le (by omega) (by decide)) (Nat.le_of_ble_eq_true rfl) rfl rfl ?_
  rintro _ _ (⟨rfl, rfl, t_1, l_1⟩ | ⟨rfl, rfl, n_1⟩)
  · refine J_st (.int (b2i true) :: []) rfl ?_
    exact J_zret C E iX10_eatAs_15 nb_b2i (Or.inl ⟨rfl, rfl, t_1, l_1⟩)
  · refine J_st (.int (b2i false) :: []) rfl ?_
    exact J_zret C E iX10_eatAs_15 nb_b2i (Or.inr ⟨rfl, rfl, n_1⟩)

set_option maxRecDepth 100000 in
set_option maxHeartbeats 4000000 in
theorem c_X10_deeper {Z : GZ} {l : Launch} {mo pl pn : Nat → Nat} {th sz ea lr dy ca hs ls : Int32} {kn : Bool} {hn va : Nat → Int64} {ha hh dz wh bg en tp kd fr wo pc ht fs la kh kf kl sh dk sk : Nat → Int32} {Lt : Nat} {tq : Nat → Nat} {vq : Nat → Int64} {i s d : Nat} {me od wi al : Nat → Int32} {c : Int32} {k : Nat} (hc : c = km k) (hk : k < 43) (hk41 : k ≠ 41) (hk42 : k ≠ 42) (hLt : Lt ≤ 400) (hkd : ∀ i, i ≤ Lt → kd i = km (tq i)) (htq : ∀ i, tq i < 43) (hend : ∀ i, i ≤ Lt → tq i ≠ 41 → tq i ≠ 42 → i < Lt) (hva : ∀ i, i ≤ Lt → tq i = 39 ∨ tq i = 40 → va i = vq i) (hi : i ≤ Lt) (hd : d ≤ 8)  : Ct Z l yX10_deeper cX10_deeper 2 (some .boolean) (rmK 1) [.ref (mo 0), .int c] (wMd Z mo pl th sz ea (nI i) (nI d) lr dy ca kn tp kd fr me va wo pc ht fs la kh kf kl sh dk sk ++ wPl Z pn hs ls (nI s) hn ha hh dz wh bg en od wi al) (fun v w => (v = some (.int (b2i true)) ∧ w = (wMd Z mo pl th sz ea (nI (i + 1)) (nI (d + 1)) lr dy ca kn tp kd fr me va wo pc ht fs la kh kf kl sh dk sk ++ wPl Z pn hs ls (nI s) hn ha hh dz wh bg en od wi al) ∧ tq i = k ∧ i < Lt ∧ d < 8) ∨ (v = some (.int (b2i false)) ∧ w = (wMd Z mo pl th sz ea (nI i) (nI d) lr dy ca kn tp kd fr me va wo pc ht fs la kh kf kl sh dk sk ++ wPl Z pn hs ls (nI s) hn ha hh dz wh bg en od wi al) ∧ (d = 8 ∨ tq i ≠ k))) := by
  refine Ct.ofJ (own := RX10) (nm := "deeper") (lv0 := [(0, .ref (mo 0)), (1, .int c)]) (by decide) rfl rfl (Nat.le_of_ble_eq_true rfl) rfl (fun X hXl C E => ?_)
  subst hXl
  refine J_aload_n C iX10_deeper_0 rfl rfl ?_
  refine J_get (.int (nI d)) 0 C iX10_deeper_1 gf_X10_269 rfl rfl ?_
  refine J_bipush 8 C iX10_deeper_4 rfl ?_
  by_cases hs6 : d = 8
  · refine J_icmpeq 17 C iX10_deeper_6 rfl (fun h6 => ?_) (fun h6 => absurd (show nI d = 8 from congrArg nI hs6) h6)
    refine J_iconst 0 C iX10_deeper_17 rfl ?_
    exact J_zret C E iX10_deeper_18 rfl (Or.inr ⟨rfl, rfl, by first | exact Or.inl hs6 | exact Or.inr n_1⟩)
  · refine J_icmpeq 17 C iX10_deeper_6 rfl (fun h6 => absurd h6 (fun e => hs6 ((nI_eq (a := d) (b := 8) (by omega) (by omega)).mp e))) (fun h6 => ?_)
    refine J_aload_n C iX10_deeper_9 rfl rfl ?_
    refine J_iload_n C iX10_deeper_10 rfl rfl ?_
    refine J_cV (As := [.int c]) (st := []) (rc2 := (rmK 1).cells) (rs2 := (rmK 1).slots) C iX10_deeper_11 lm_X10_266 yc_X10_eat yv_X10_eat (c_X10_eat hc hk hk41 hk42 hLt hkd htq hend hva hi) (q0 := 0) rfl rfl rfl rfl (rmK_le (by omega) (by decide)) (Nat.le_of_ble_eq_true rfl) rfl rfl ?_
    rintro _ _ (⟨rfl, rfl, t_1, l_1⟩ | ⟨rfl, rfl, n_1⟩)
    · refine J_st (.int (b2i true) :: []) rfl ?_
      refine J_ifneb 19 C iX10_deeper_14 rfl (fun h14 => ?_) (fun h14 => absurd (h14.symm.trans rfl) (by decide))
      refine J_aload_n C iX10_deeper_19 rfl rfl ?_
      refine J_dup C iX10_deeper_20 rfl ?_
      refine J_get (.int (nI d)) 0 C iX10_deeper_21 gf_X10_269 rfl rfl ?_
      refine J_iconst 1 C iX10_deeper_24 rfl ?_
      refine J_iadd C iX10_deeper_25 ?_
      rw [show (nI d) + 1 = nI (d + 1) from nI_add _ _]
      refine J_put (wMd Z mo pl th sz ea (nI (i + 1)) (nI (d + 1)) lr dy ca kn tp kd fr me va wo pc ht fs la kh kf kl sh dk sk ++ wPl Z pn hs ls (nI s) hn ha hh dz wh bg en od wi al) 0 C iX10_deeper_26 pf_X10_269 rfl rfl rfl (Nat.le_of_ble_eq_true rfl) rfl ?_
      refine J_iconst 1 C iX10_deeper_29 rfl ?_
      exact J_zret C E iX10_deeper_30 rfl (Or.inl ⟨rfl, rfl, t_1, l_1, by omega⟩)
    · refine J_st (.int (b2i false) :: []) rfl ?_
      refine J_ifneb 19 C iX10_deeper_14 rfl (fun h14 => absurd (h14.symm.trans rfl) (by decide)) (fun h14 => ?_)
      refine J_iconst 0 C iX10_deeper_17 rfl ?_
      exact J_zret C E iX10_deeper_18 rfl (Or.inr ⟨rfl, rfl, by first | exact Or.inl hs6 | exact Or.inr n_1⟩)

set_option maxRecDepth 100000 in
set_option maxHeartbeats 4000000 in
theorem c_X10_closes {Z : GZ} {l : Launch} {mo pl pn : Nat → Nat} {th sz ea lr dy ca hs ls : Int32} {kn : Bool} {hn va : Nat → Int64} {ha hh dz wh bg en tp kd fr wo pc ht fs la kh kf kl sh dk sk : Nat → Int32} {Lt : Nat} {tq : Nat → Nat} {vq : Nat → Int64} {i s d : Nat} {me od wi al : Nat → Int32} {c : Int32} {k : Nat} (hc : c = km k) (hk : k < 43) (hk41 : k ≠ 41) (hk42 : k ≠ 42) (hLt : Lt ≤ 400) (hkd : ∀ i, i ≤ Lt → kd i = km (tq i)) (htq : ∀ i, tq i < 43) (hend : ∀ i, i ≤ Lt → tq i ≠ 41 → tq i ≠ 42 → i < Lt) (hva : ∀ i, i ≤ Lt → tq i = 39 ∨ tq i = 40 → va i = vq i) (hi : i ≤ Lt)  : Ct Z l yX10_closes cX10_closes 2 (some .boolean) (rmK 1) [.ref (mo 0), .int c] (wMd Z mo pl th sz ea (nI i) (nI (d + 1)) lr dy ca kn tp kd fr me va wo pc ht fs la kh kf kl sh dk sk ++ wPl Z pn hs ls (nI s) hn ha hh dz wh bg en od wi al) (fun v w => (v = some (.int (b2i true)) ∧ w = (wMd Z mo pl th sz ea (nI (i + 1)) (nI d) lr dy ca kn tp kd fr me va wo pc ht fs la kh kf kl sh dk sk ++ wPl Z pn hs ls (nI s) hn ha hh dz wh bg en od wi al) ∧ tq i = k ∧ i < Lt) ∨ (v = some (.int (b2i false)) ∧ w = (wMd Z mo pl th sz ea (nI i) (nI (d + 1)) lr dy ca kn tp kd fr me va wo pc ht fs la kh kf kl sh dk sk ++ wPl Z pn hs ls (nI s) hn ha hh dz wh bg en od wi al) ∧ tq i ≠ k)) := by
  refine Ct.ofJ (own := RX10) (nm := "closes") (lv0 := [(0, .ref (mo 0)), (1, .int c)]) (by decide) rfl rfl (Nat.le_of_ble_eq_true rfl) rfl (fun X hXl C E => ?_)
  subst hXl
  refine J_aload_n C iX10_closes_0 rfl rfl ?_
  refine J_iload_n C iX10_closes_1 rfl rfl ?_
  refine J_cV (As := [.int c]) (st := []) (rc2 := (rmK 1).cells) (rs2 := (rmK 1).slots) C iX10_closes_2 lm_X10_266 yc_X10_eat yv_X10_eat (c_X10_eat hc hk hk41 hk42 hLt hkd htq hend hva hi) (q0 := 0) rfl rfl rfl rfl (rmK_le (by omega) (by decide)) (Nat.le_of_ble_eq_true rfl) rfl rfl ?_
  rintro _ _ (⟨rfl, rfl, t_1, l_1⟩ | ⟨rfl, rfl, n_1⟩)
  · refine J_st (.int (b2i true) :: []) rfl ?_
    refine J_ifneb 10 C iX10_closes_5 rfl (fun h5 => ?_) (fun h5 => absurd (h5.symm.trans rfl) (by decide))
    refine J_aload_n C iX10_closes_10 rfl rfl ?_
    refine J_dup C iX10_closes_11 rfl ?_
    refine J_get (.int (nI (d + 1))) 0 C iX10_closes_12 gf_X10_269 rfl rfl ?_
    refine J_iconst 1 C iX10_closes_15 rfl ?_
    refine J_isub C iX10_closes_16 ?_
    rw [show (nI (d + 1)) - 1 = nI d from nI_dec]
    refine J_put (wMd Z mo pl th sz ea (nI (i + 1)) (nI d) lr dy ca kn tp kd fr me va wo pc ht fs la kh kf kl sh dk sk ++ wPl Z pn hs ls (nI s) hn ha hh dz wh bg en od wi al) 0 C iX10_closes_17 pf_X10_269 rfl rfl rfl (Nat.le_of_ble_eq_true rfl) rfl ?_
    refine J_iconst 1 C iX10_closes_20 rfl ?_
    exact J_zret C E iX10_closes_21 rfl (Or.inl ⟨rfl, rfl, t_1, l_1⟩)
  · refine J_st (.int (b2i false) :: []) rfl ?_
    refine J_ifneb 10 C iX10_closes_5 rfl (fun h5 => absurd (h5.symm.trans rfl) (by decide)) (fun h5 => ?_)
    refine J_iconst 0 C iX10_closes_8 rfl ?_
    exact J_zret C E iX10_closes_9 rfl (Or.inr ⟨rfl, rfl, n_1⟩)

set_option maxRecDepth 100000 in
set_option maxHeartbeats 4000000 in
theorem c_X10_put {Z : GZ} {l : Launch} {mo pl pn : Nat → Nat} {th sz ea lr dy ca hs ls : Int32} {kn : Bool} {hn va : Nat → Int64} {ha hh dz wh bg en tp kd fr wo pc ht fs la kh kf kl sh dk sk : Nat → Int32} {i s d : Nat} {me od wi al : Nat → Int32} {x y : Int32} (hs8 : s < 800)  : Ct Z l yX10_put cX10_put 4 none (rmK 0) [.ref (mo 0), .ref (pn 0), .int x, .int y] (wMd Z mo pl th sz ea (nI i) (nI d) lr dy ca kn tp kd fr me va wo pc ht fs la kh kf kl sh dk sk ++ wPl Z pn hs ls (nI s) hn ha hh dz wh bg en od wi al) (fun v w => v = none ∧ w = (wMd Z mo pl th sz ea (nI i) (nI d) lr dy ca kn tp kd fr me va wo pc ht fs la kh kf kl sh dk sk ++ wPl Z pn hs ls (nI (s + 1)) hn ha hh dz wh bg en (upd od s x) (upd wi s y) al)) := by
  refine Ct.ofJ (own := RX10) (nm := "put") (lv0 := [(0, .ref (mo 0)), (1, .ref (pn 0)), (2, .int x), (3, .int y)]) (by decide) rfl rfl (Nat.le_of_ble_eq_true rfl) rfl (fun X hXl C E => ?_)
  subst hXl
  refine J_aload_n C iX10_put_0 rfl rfl ?_
  refine J_get (.ref (pn 8)) 17 C iX10_put_1 gf_X10_198 rfl rfl ?_
  refine J_aload_n C iX10_put_4 rfl rfl ?_
  refine J_get (.int (nI s)) 17 C iX10_put_5 gf_X10_272 rfl rfl ?_
  refine J_iload_n C iX10_put_8 rfl rfl ?_
  refine J_iast (wMd Z mo pl th sz ea (nI i) (nI d) lr dy ca kn tp kd fr me va wo pc ht fs la kh kf kl sh dk sk ++ wPl Z pn hs ls (nI s) hn ha hh dz wh bg en (upd od (nI s).toNatClampNeg x) wi al) 25 C iX10_put_9 rfl (vp_in_nI (n := s) (by omega) (by decide)) rfl ?_
  rw [nI_clamp (n := s) (by omega)]
  refine J_aload_n C iX10_put_10 rfl rfl ?_
  refine J_get (.ref (pn 9)) 17 C iX10_put_11 gf_X10_204 rfl rfl ?_
  refine J_aload_n C iX10_put_14 rfl rfl ?_
  refine J_get (.int (nI s)) 17 C iX10_put_15 gf_X10_272 rfl rfl ?_
  refine J_iload_n C iX10_put_18 rfl rfl ?_
  refine J_iast (wMd Z mo pl th sz ea (nI i) (nI d) lr dy ca kn tp kd fr me va wo pc ht fs la kh kf kl sh dk sk ++ wPl Z pn hs ls (nI s) hn ha hh dz wh bg en (upd od s x) (upd wi (nI s).toNatClampNeg y) al) 26 C iX10_put_19 rfl (vp_in_nI (n := s) (by omega) (by decide)) rfl ?_
  rw [nI_clamp (n := s) (by omega)]
  refine J_aload_n C iX10_put_20 rfl rfl ?_
  refine J_dup C iX10_put_21 rfl ?_
  refine J_get (.int (nI s)) 17 C iX10_put_22 gf_X10_272 rfl rfl ?_
  refine J_iconst 1 C iX10_put_25 rfl ?_
  refine J_iadd C iX10_put_26 ?_
  rw [show (nI s) + 1 = nI (s + 1) from nI_add _ _]
  refine J_put (wMd Z mo pl th sz ea (nI i) (nI d) lr dy ca kn tp kd fr me va wo pc ht fs la kh kf kl sh dk sk ++ wPl Z pn hs ls (nI (s + 1)) hn ha hh dz wh bg en (upd od s x) (upd wi s y) al) 17 C iX10_put_27 pf_X10_272 rfl rfl rfl (Nat.le_of_ble_eq_true rfl) rfl ?_
  exact J_vret C E iX10_put_30 ⟨rfl, rfl⟩

