/-- the tokens' cells -/
def wTk (Z : GZ) (k t : Nat → Nat) (ct : Int32) (kf : Nat → Option Nat) (sf : Nat → Int32) (vf : Nat → Int64) : va_W := [(k 0, .inr (6, [.ref (t 0), .ref (k 1), .ref (k 2), .ref (k 3), .int ct])), (k 1, .inl (zA Z 4, 401, .inr (.inr (.inr (.inr kf))))), (k 2, .inl (zA Z 0, 401, .inl sf)), (k 3, .inl (zA Z 1, 401, .inr (.inl vf)))]
def isLet (b : Int32) : Bool := !decide (b < 97) && !decide (122 < b)
def isDig (b : Int32) : Bool := !decide (b < 48) && !decide (57 < b)
def isBl (b : Int32) : Bool := b == 32 || b == 10
theorem bl_no {b : Int32} (h : isBl b = true) (h1 : ¬ b = 32) (h2 : ¬ b = 10) : False := by simp [isBl, h1, h2] at h
theorem bl_f1 {b : Int32} (h : isBl b = false) : ¬ b = 32 := by intro e; simp [isBl, e] at h
theorem bl_f2 {b : Int32} (h : isBl b = false) : ¬ b = 10 := by intro e; simp [isBl, e] at h
/-- how many places from s on have q, f at the most -/
def runL (q : Nat → Bool) (s : Nat) : Nat → Nat
  | 0 => 0
  | f + 1 => if q s then runL q (s + 1) f + 1 else 0
theorem runL_le {q : Nat → Bool} : ∀ {f s : Nat}, runL q s f ≤ f
  | 0, _ => Nat.le_refl _
  | f + 1, s => by
    rw [runL]
    split
    · exact Nat.succ_le_succ (runL_le (f := f) (s := s + 1))
    · exact Nat.zero_le _
theorem runL_in {q : Nat → Bool} : ∀ {f s k : Nat}, k < runL q s f → q (s + k) = true
  | 0, _, _, h => absurd h (Nat.not_lt_zero _)
  | f + 1, s, k, h => by
    rw [runL] at h
    split at h
    · rename_i hq
      cases k with
      | zero => exact hq
      | succ k =>
        have := runL_in (q := q) (f := f) (s := s + 1) (k := k) (by omega)
        rwa [show s + 1 + k = s + (k + 1) by omega] at this
    · exact absurd h (Nat.not_lt_zero _)
theorem runL_end {q : Nat → Bool} : ∀ {f s : Nat}, runL q s f ≠ f → q (s + runL q s f) = false
  | 0, _, h => absurd rfl h
  | f + 1, s, h => by
    rw [runL] at h ⊢
    split at h
    · rename_i hq
      rw [if_pos hq]
      have := runL_end (q := q) (f := f) (s := s + 1) (by omega)
      rwa [show s + 1 + runL q (s + 1) f = s + (runL q (s + 1) f + 1) by omega] at this
    · rename_i hq
      rw [if_neg hq]
      simpa using hq
def blL (m : Nat) (tb : Nat → Int32) (s : Nat) : Nat := runL (fun p => isBl (sgN m tb p)) s (2000 - s)
def wdL (m : Nat) (tb : Nat → Int32) (s : Nat) : Nat := runL (fun p => isLet (sgN m tb p) || isDig (sgN m tb p)) s (2000 - s)
def nmL (m : Nat) (tb : Nat → Int32) (s : Nat) : Nat := runL (fun p => isDig (sgN m tb p)) s (2000 - s)
def wVal (m : Nat) (tb : Nat → Int32) (s : Nat) : Nat → Int64
  | 0 => 0
  | k + 1 => lnF (wVal m tb s k) (sgN m tb (s + k))
def nVal (m : Nat) (tb : Nat → Int32) (s : Nat) : Nat → Int64
  | 0 => 0
  | k + 1 => nVal m tb s k * 10 + (sgN m tb (s + k) - 48).toInt64
def kwO (v : Int64) : Option Nat := fstN (fun i => kWd.getD i 0 == v) 43
theorem kwO_some {v : Int64} {k : Nat} (hk : k < 43) (h : kWd.getD k 0 = v) (hj : ∀ j, j < k → ¬ kWd.getD j 0 = v) : kwO v = some k := fstN_some hk (beq_iff_eq.mpr h) (fun j q => beq_false_of_ne (hj j q))
theorem kwO_none {v : Int64} (hj : ∀ j, j < 43 → ¬ kWd.getD j 0 = v) : kwO v = none := fstN_none (fun j q => beq_false_of_ne (hj j q))
def symK (b : Int32) : Nat := if b = 40 then 24 else if b = 41 then 25 else if b = 91 then 26 else if b = 93 then 27 else if b = 59 then 28 else if b = 44 then 29 else if b = 43 then 30 else if b = 45 then 31 else if b = 42 then 32 else if b = 47 then 33 else if b = 60 then 34 else if b = 62 then 35 else if b = 61 then 36 else 42
theorem symK_lt (b : Int32) : symK b < 43 := by
  unfold symK
  repeat' split
  all_goals decide
def syK (b nx : Int32) : Nat := if nx = 61 ∧ b = 60 then 37 else if nx = 61 ∧ b = 62 then 38 else symK b
def syN (b nx : Int32) (s : Nat) : Int32 := if nx = 61 ∧ b = 60 then nI (s + 2) else if nx = 61 ∧ b = 62 then nI (s + 2) else if symK b = 42 then -1 else nI (s + 1)
def wdK (m : Nat) (tb : Nat → Int32) (s : Nat) : Nat := if wdL m tb s ≤ 10 then (kwO (wVal m tb s (wdL m tb s))).getD 39 else 42
def wdV (m : Nat) (tb : Nat → Int32) (s : Nat) : Int64 := if wdL m tb s ≤ 10 then (match kwO (wVal m tb s (wdL m tb s)) with | some _ => 0 | none => wVal m tb s (wdL m tb s)) else 0
def wdN (m : Nat) (tb : Nat → Int32) (s : Nat) : Int32 := if wdL m tb s ≤ 10 then nI (s + wdL m tb s) else -1
def nmK (m : Nat) (tb : Nat → Int32) (s : Nat) : Nat := if nmL m tb s ≤ 6 then 40 else 42
def nmV (m : Nat) (tb : Nat → Int32) (s : Nat) : Int64 := if nmL m tb s ≤ 6 then nVal m tb s (nmL m tb s) else 0
def nmN (m : Nat) (tb : Nat → Int32) (s : Nat) : Int32 := if nmL m tb s ≤ 6 then nI (s + nmL m tb s) else -1
/-- the token at s, the c-th: its kind, its value, the place behind it or -1 -/
def tkK (m : Nat) (tb : Nat → Int32) (c s : Nat) : Nat := if sgN m tb s = -1 then 41 else if c = 400 then 42 else if isLet (sgN m tb s) = true then wdK m tb s else if isDig (sgN m tb s) = true then nmK m tb s else syK (sgN m tb s) (sgN m tb (s + 1))
def tkV (m : Nat) (tb : Nat → Int32) (c s : Nat) : Int64 := if sgN m tb s = -1 then 0 else if c = 400 then 0 else if isLet (sgN m tb s) = true then wdV m tb s else if isDig (sgN m tb s) = true then nmV m tb s else 0
def tkN (m : Nat) (tb : Nat → Int32) (c s : Nat) : Int32 := if sgN m tb s = -1 then -1 else if c = 400 then -1 else if isLet (sgN m tb s) = true then wdN m tb s else if isDig (sgN m tb s) = true then nmN m tb s else syN (sgN m tb s) (sgN m tb (s + 1)) s
theorem sub_nI (s n : Nat) : nI (s + n) - nI s = nI n := by rw [pk_sub (Nat.le_add_right _ _), Nat.add_sub_cancel_left]
/-- a sign is a byte or -1 -/
theorem sg_rng (m : Nat) (tb : Nat → Int32) (p : Nat) : sgN m tb p = -1 ∨ ∃ c : Nat, c < 256 ∧ sgN m tb p = nI c := by
  unfold sgN sgF
  split
  · exact Or.inl rfl
  · obtain ⟨j, h1, h2⟩ := pk_andE (tb (nI p).toNatClampNeg) (m := 255) 8 (by decide)
    exact Or.inr ⟨j, h1, h2⟩
def symA : Array Int := #[231, 235, 263, 255, 251, 259, 283, 267, 283, 283, 283, 283, 283, 283, 283, 283, 283, 283, 283, 247, 271, 279, 275, 283, 283, 283, 283, 283, 283, 283, 283, 283, 283, 283, 283, 283, 283, 283, 283, 283, 283, 283, 283, 283, 283, 283, 283, 283, 283, 283, 283, 239, 283, 243]
def symT (c : Nat) : Bool := (symA[c - 40]? == some 283) || decide (c < 40) || decide (93 < c) || [40, 41, 91, 93, 59, 44, 43, 45, 42, 47, 60, 62, 61].contains c
theorem symT_ok : ∀ c, c < 256 → symT c = true := by decide +kernel
theorem sym_d (c : Nat) (hc : c < 256) (h1 : 40 ≤ c) (h2 : c ≤ 93) (h3 : ¬ (c = 40 ∨ c = 41 ∨ c = 91 ∨ c = 93 ∨ c = 59 ∨ c = 44 ∨ c = 43 ∨ c = 45 ∨ c = 42 ∨ c = 47 ∨ c = 60 ∨ c = 62 ∨ c = 61)) : symA[((nI c).toInt - 40).toNat]? = some 283 := by
  have h := symT_ok c hc
  rw [nI_toInt (by omega), show ((c : Int) - 40).toNat = c - 40 by omega]
  simp only [symT, Bool.or_eq_true, beq_iff_eq, decide_eq_true_eq] at h
  rcases h with ((h | h) | h) | h
  · exact h
  · omega
  · omega
  · exact absurd (by simpa using h) h3
theorem symK_d : ∀ c, c < 256 → ¬ (c = 40 ∨ c = 41 ∨ c = 91 ∨ c = 93 ∨ c = 59 ∨ c = 44 ∨ c = 43 ∨ c = 45 ∨ c = 42 ∨ c = 47 ∨ c = 60 ∨ c = 62 ∨ c = 61) → symK (nI c) = 42 := by decide +kernel
set_option maxRecDepth 100000 in
set_option maxHeartbeats 4000000 in
theorem c_X7_isLetter {Z : GZ} {l : Launch} {b : Int32}  : Ct Z l yX7_isLetter cX7_isLetter 1 (some .boolean) (rmK 0) [.int b] [] (fun v w => v = some (.int (b2i (isLet b))) ∧ w = []) := by
  refine Ct.ofJ (own := RX7) (nm := "isLetter") (lv0 := [(0, .int b)]) (by decide) rfl rfl (Nat.le_of_ble_eq_true rfl) rfl (fun X hXl C E => ?_)
  subst hXl
  refine J_iload_n C iX7_isLetter_0 rfl rfl ?_
  refine J_bipush 97 C iX7_isLetter_1 rfl ?_
  refine J_icmplt 16 C iX7_isLetter_3 rfl (fun h3 => ?_) (fun h3 => ?_)
  · refine J_iconst 0 C iX7_isLetter_16 rfl ?_
    exact J_zret C E iX7_isLetter_17 rfl ⟨by simp [isLet, h3, b2i], rfl⟩
  · refine J_iload_n C iX7_isLetter_6 rfl rfl ?_
    refine J_bipush 122 C iX7_isLetter_7 rfl ?_
    refine J_icmpgt 16 C iX7_isLetter_9 rfl (fun h9 => ?_) (fun h9 => ?_)
    · refine J_iconst 0 C iX7_isLetter_16 rfl ?_
      exact J_zret C E iX7_isLetter_17 rfl ⟨by simp [isLet, h3, h9, b2i], rfl⟩
    · refine J_iconst 1 C iX7_isLetter_12 rfl ?_
      refine J_goto 17 C iX7_isLetter_13 rfl ?_
      exact J_zret C E iX7_isLetter_17 rfl ⟨by simp [isLet, h3, h9, b2i], rfl⟩

set_option maxRecDepth 100000 in
set_option maxHeartbeats 4000000 in
theorem c_X7_isDigit {Z : GZ} {l : Launch} {b : Int32}  : Ct Z l yX7_isDigit cX7_isDigit 1 (some .boolean) (rmK 0) [.int b] [] (fun v w => v = some (.int (b2i (isDig b))) ∧ w = []) := by
  refine Ct.ofJ (own := RX7) (nm := "isDigit") (lv0 := [(0, .int b)]) (by decide) rfl rfl (Nat.le_of_ble_eq_true rfl) rfl (fun X hXl C E => ?_)
  subst hXl
  refine J_iload_n C iX7_isDigit_0 rfl rfl ?_
  refine J_bipush 48 C iX7_isDigit_1 rfl ?_
  refine J_icmplt 16 C iX7_isDigit_3 rfl (fun h3 => ?_) (fun h3 => ?_)
  · refine J_iconst 0 C iX7_isDigit_16 rfl ?_
    exact J_zret C E iX7_isDigit_17 rfl ⟨by simp [isDig, h3, b2i], rfl⟩
  · refine J_iload_n C iX7_isDigit_6 rfl rfl ?_
    refine J_bipush 57 C iX7_isDigit_7 rfl ?_
    refine J_icmpgt 16 C iX7_isDigit_9 rfl (fun h9 => ?_) (fun h9 => ?_)
    · refine J_iconst 0 C iX7_isDigit_16 rfl ?_
      exact J_zret C E iX7_isDigit_17 rfl ⟨by simp [isDig, h3, h9, b2i], rfl⟩
    · refine J_iconst 1 C iX7_isDigit_12 rfl ?_
      refine J_goto 17 C iX7_isDigit_13 rfl ?_
      exact J_zret C E iX7_isDigit_17 rfl ⟨by simp [isDig, h3, h9, b2i], rfl⟩

set_option maxRecDepth 100000 in
set_option maxHeartbeats 4000000 in
theorem c_X7_symbol {Z : GZ} {l : Launch} {c : Nat} (hc : c < 256)  : Ct Z l yX7_symbol cX7_symbol 1 (some (.object "ShadowRegistry$Kind")) (rmK 0) [.int (nI c)] [] (fun v w => v = some (.ref (zad Z (symK (nI c)))) ∧ w = []) := by
  refine Ct.ofJ (own := RX7) (nm := "symbol") (lv0 := [(0, .int (nI c))]) (by decide) rfl rfl (Nat.le_of_ble_eq_true rfl) rfl (fun X hXl C E => ?_)
  subst hXl
  refine J_iload_n C iX7_symbol_0 rfl rfl ?_
  by_cases hc2 : c = 40 ∨ c = 41 ∨ c = 91 ∨ c = 93 ∨ c = 59 ∨ c = 44 ∨ c = 43 ∨ c = 45 ∨ c = 42 ∨ c = 47 ∨ c = 60 ∨ c = 62 ∨ c = 61
  · rcases hc2 with rfl | rfl | rfl | rfl | rfl | rfl | rfl | rfl | rfl | rfl | rfl | rfl | rfl
    · refine J_tabIn 232 C iX7_symbol_1 (by decide) (by decide) rfl rfl ?_
      refine J_getsK C iX7_symbol_232 kf_X7_105 ?_
      exact J_aret C E iX7_symbol_235 (Or.inl ⟨_, rfl⟩) ⟨rfl, rfl⟩
    · refine J_tabIn 236 C iX7_symbol_1 (by decide) (by decide) rfl rfl ?_
      refine J_getsK C iX7_symbol_236 kf_X7_108 ?_
      exact J_aret C E iX7_symbol_239 (Or.inl ⟨_, rfl⟩) ⟨rfl, rfl⟩
    · refine J_tabIn 240 C iX7_symbol_1 (by decide) (by decide) rfl rfl ?_
      refine J_getsK C iX7_symbol_240 kf_X7_111 ?_
      exact J_aret C E iX7_symbol_243 (Or.inl ⟨_, rfl⟩) ⟨rfl, rfl⟩
    · refine J_tabIn 244 C iX7_symbol_1 (by decide) (by decide) rfl rfl ?_
      refine J_getsK C iX7_symbol_244 kf_X7_114 ?_
      exact J_aret C E iX7_symbol_247 (Or.inl ⟨_, rfl⟩) ⟨rfl, rfl⟩
    · refine J_tabIn 248 C iX7_symbol_1 (by decide) (by decide) rfl rfl ?_
      refine J_getsK C iX7_symbol_248 kf_X7_117 ?_
      exact J_aret C E iX7_symbol_251 (Or.inl ⟨_, rfl⟩) ⟨rfl, rfl⟩
    · refine J_tabIn 252 C iX7_symbol_1 (by decide) (by decide) rfl rfl ?_
      refine J_getsK C iX7_symbol_252 kf_X7_120 ?_
      exact J_aret C E iX7_symbol_255 (Or.inl ⟨_, rfl⟩) ⟨rfl, rfl⟩
    · refine J_tabIn 256 C iX7_symbol_1 (by decide) (by decide) rfl rfl ?_
      refine J_getsK C iX7_symbol_256 kf_X7_123 ?_
      exact J_aret C E iX7_symbol_259 (Or.inl ⟨_, rfl⟩) ⟨rfl, rfl⟩
    · refine J_tabIn 260 C iX7_symbol_1 (by decide) (by decide) rfl rfl ?_
      refine J_getsK C iX7_symbol_260 kf_X7_126 ?_
      exact J_aret C E iX7_symbol_263 (Or.inl ⟨_, rfl⟩) ⟨rfl, rfl⟩
    · refine J_tabIn 264 C iX7_symbol_1 (by decide) (by decide) rfl rfl ?_
      refine J_getsK C iX7_symbol_264 kf_X7_129 ?_
      exact J_aret C E iX7_symbol_267 (Or.inl ⟨_, rfl⟩) ⟨rfl, rfl⟩
    · refine J_tabIn 268 C iX7_symbol_1 (by decide) (by decide) rfl rfl ?_
      refine J_getsK C iX7_symbol_268 kf_X7_132 ?_
      exact J_aret C E iX7_symbol_271 (Or.inl ⟨_, rfl⟩) ⟨rfl, rfl⟩
    · refine J_tabIn 272 C iX7_symbol_1 (by decide) (by decide) rfl rfl ?_
      refine J_getsK C iX7_symbol_272 kf_X7_135 ?_
      exact J_aret C E iX7_symbol_275 (Or.inl ⟨_, rfl⟩) ⟨rfl, rfl⟩
    · refine J_tabIn 276 C iX7_symbol_1 (by decide) (by decide) rfl rfl ?_
      refine J_getsK C iX7_symbol_276 kf_X7_138 ?_
      exact J_aret C E iX7_symbol_279 (Or.inl ⟨_, rfl⟩) ⟨rfl, rfl⟩
    · refine J_tabIn 280 C iX7_symbol_1 (by decide) (by decide) rfl rfl ?_
      refine J_getsK C iX7_symbol_280 kf_X7_141 ?_
      exact J_aret C E iX7_symbol_283 (Or.inl ⟨_, rfl⟩) ⟨rfl, rfl⟩
  · by_cases hr : 40 ≤ c ∧ c ≤ 93
    · refine J_tabIn 284 C iX7_symbol_1 (by rw [nI_toInt (by omega)]; omega) (by rw [nI_toInt (by omega)]; omega) (sym_d c hc hr.1 hr.2 hc2) rfl ?_
      refine J_getsK C iX7_symbol_284 kf_X7_56 ?_
      exact J_aret C E iX7_symbol_287 (Or.inl ⟨_, rfl⟩) ⟨by rw [symK_d c hc hc2], rfl⟩
    · refine J_tabOut 284 C iX7_symbol_1 (by rw [nI_toInt (by omega)]; omega) rfl ?_
      refine J_getsK C iX7_symbol_284 kf_X7_56 ?_
      exact J_aret C E iX7_symbol_287 (Or.inl ⟨_, rfl⟩) ⟨by rw [symK_d c hc hc2], rfl⟩

set_option maxRecDepth 100000 in
set_option maxHeartbeats 4000000 in
theorem c_X7_kindAt {Z : GZ} {l : Launch} {kk t : Nat → Nat} {m : Nat} {tb : Nat → Int32} {kf : Nat → Option Nat} {sf : Nat → Int32} {vf : Nat → Int64} {n i κ : Nat} (hn : n ≤ 401) (hi : i < n) (hκ : kf i = some (zad Z κ)) : Ct Z l yX7_kindAt cX7_kindAt 2 (some (.object "ShadowRegistry$Kind")) (rmK 0) [.ref (kk 0), .int (nI i)] (wTk Z kk t (nI n) kf sf vf ++ wTp Z t (nI m) tb) (fun v w => v = some (.ref (zad Z κ)) ∧ w = (wTk Z kk t (nI n) kf sf vf ++ wTp Z t (nI m) tb)) := by
  refine Ct.ofJ (own := RX7) (nm := "kindAt") (lv0 := [(0, .ref (kk 0)), (1, .int (nI i))]) (by decide) rfl rfl (Nat.le_of_ble_eq_true rfl) rfl (fun X hXl C E => ?_)
  subst hXl
  refine J_iload_n C iX7_kindAt_0 rfl rfl ?_
  refine J_iflt 19 C iX7_kindAt_1 rfl (fun h1 => absurd h1 (nI_pos (n := i) (by omega))) (fun h1 => ?_)
  refine J_iload_n C iX7_kindAt_4 rfl rfl ?_
  refine J_aload_n C iX7_kindAt_5 rfl rfl ?_
  refine J_get (.int (nI n)) 0 C iX7_kindAt_6 gf_X7_29 rfl rfl ?_
  refine J_icmpge 19 C iX7_kindAt_9 rfl (fun h9 => absurd h9 (nI_ge (a := i) (b := n) (by omega) (by omega))) (fun h9 => ?_)
  refine J_iload_n C iX7_kindAt_12 rfl rfl ?_
  refine J_sipush 400 C iX7_kindAt_13 rfl ?_
  refine J_icmple 25 C iX7_kindAt_16 rfl (fun h16 => ?_) (fun h16 => absurd (nI_le (a := i) (b := 400) (by omega) (by omega)) h16)
  refine J_aload_n C iX7_kindAt_25 rfl rfl ?_
  refine J_get (.ref (kk 1)) 0 C iX7_kindAt_26 gf_X7_11 rfl rfl ?_
  refine J_iload_n C iX7_kindAt_29 rfl rfl ?_
  refine J_aaldK 1 C iX7_kindAt_30 rfl (vp_in_nI (n := i) (by omega) (by decide)) ?_
  rw [nI_clamp (n := i) (by omega)]
  rw [hκ]
  refine J_st (.ref (zad Z κ) :: []) rfl ?_
  exact J_aret C E iX7_kindAt_31 (Or.inl ⟨_, rfl⟩) ⟨rfl, rfl⟩

set_option maxRecDepth 100000 in
set_option maxHeartbeats 4000000 in
theorem c_X7_startAt {Z : GZ} {l : Launch} {kk t : Nat → Nat} {m : Nat} {tb : Nat → Int32} {kf : Nat → Option Nat} {sf : Nat → Int32} {vf : Nat → Int64} {n i : Nat} (hn : n ≤ 401) (hi : i < n)  : Ct Z l yX7_startAt cX7_startAt 2 (some .int) (rmK 0) [.ref (kk 0), .int (nI i)] (wTk Z kk t (nI n) kf sf vf ++ wTp Z t (nI m) tb) (fun v w => v = some (.int (sf i)) ∧ w = (wTk Z kk t (nI n) kf sf vf ++ wTp Z t (nI m) tb)) := by
  refine Ct.ofJ (own := RX7) (nm := "startAt") (lv0 := [(0, .ref (kk 0)), (1, .int (nI i))]) (by decide) rfl rfl (Nat.le_of_ble_eq_true rfl) rfl (fun X hXl C E => ?_)
  subst hXl
  refine J_iload_n C iX7_startAt_0 rfl rfl ?_
  refine J_iflt 19 C iX7_startAt_1 rfl (fun h1 => absurd h1 (nI_pos (n := i) (by omega))) (fun h1 => ?_)
  refine J_iload_n C iX7_startAt_4 rfl rfl ?_
  refine J_aload_n C iX7_startAt_5 rfl rfl ?_
  refine J_get (.int (nI n)) 0 C iX7_startAt_6 gf_X7_29 rfl rfl ?_
  refine J_icmpge 19 C iX7_startAt_9 rfl (fun h9 => absurd h9 (nI_ge (a := i) (b := n) (by omega) (by omega))) (fun h9 => ?_)
  refine J_iload_n C iX7_startAt_12 rfl rfl ?_
  refine J_sipush 400 C iX7_startAt_13 rfl ?_
  refine J_icmple 29 C iX7_startAt_16 rfl (fun h16 => ?_) (fun h16 => absurd (nI_le (a := i) (b := 400) (by omega) (by omega)) h16)
  refine J_aload_n C iX7_startAt_29 rfl rfl ?_
  refine J_get (.ref (kk 2)) 0 C iX7_startAt_30 gf_X7_17 rfl rfl ?_
  refine J_iload_n C iX7_startAt_33 rfl rfl ?_
  refine J_iald 2 C iX7_startAt_34 rfl (vp_in_nI (n := i) (by omega) (by decide)) ?_
  rw [nI_clamp (n := i) (by omega)]
  exact J_iret C E iX7_startAt_35 ⟨rfl, rfl⟩

set_option maxRecDepth 100000 in
set_option maxHeartbeats 4000000 in
theorem c_X7_valueAt {Z : GZ} {l : Launch} {kk t : Nat → Nat} {m : Nat} {tb : Nat → Int32} {kf : Nat → Option Nat} {sf : Nat → Int32} {vf : Nat → Int64} {n i : Nat} (hn : n ≤ 401) (hi : i < n)  : Ct Z l yX7_valueAt cX7_valueAt 2 (some .long) (rmK 0) [.ref (kk 0), .int (nI i)] (wTk Z kk t (nI n) kf sf vf ++ wTp Z t (nI m) tb) (fun v w => v = some (.long (vf i)) ∧ w = (wTk Z kk t (nI n) kf sf vf ++ wTp Z t (nI m) tb)) := by
  refine Ct.ofJ (own := RX7) (nm := "valueAt") (lv0 := [(0, .ref (kk 0)), (1, .int (nI i))]) (by decide) rfl rfl (Nat.le_of_ble_eq_true rfl) rfl (fun X hXl C E => ?_)
  subst hXl
  refine J_iload_n C iX7_valueAt_0 rfl rfl ?_
  refine J_iflt 19 C iX7_valueAt_1 rfl (fun h1 => absurd h1 (nI_pos (n := i) (by omega))) (fun h1 => ?_)
  refine J_iload_n C iX7_valueAt_4 rfl rfl ?_
  refine J_aload_n C iX7_valueAt_5 rfl rfl ?_
  refine J_get (.int (nI n)) 0 C iX7_valueAt_6 gf_X7_29 rfl rfl ?_
  refine J_icmpge 19 C iX7_valueAt_9 rfl (fun h9 => absurd h9 (nI_ge (a := i) (b := n) (by omega) (by omega))) (fun h9 => ?_)
  refine J_iload_n C iX7_valueAt_12 rfl rfl ?_
  refine J_sipush 400 C iX7_valueAt_13 rfl ?_
  refine J_icmple 23 C iX7_valueAt_16 rfl (fun h16 => ?_) (fun h16 => absurd (nI_le (a := i) (b := 400) (by omega) (by omega)) h16)
  refine J_aload_n C iX7_valueAt_23 rfl rfl ?_
  refine J_get (.ref (kk 3)) 0 C iX7_valueAt_24 gf_X7_21 rfl rfl ?_
  refine J_iload_n C iX7_valueAt_27 rfl rfl ?_
  refine J_lald 3 C iX7_valueAt_28 rfl (vp_in_nI (n := i) (by omega) (by decide)) ?_
  rw [nI_clamp (n := i) (by omega)]
  exact J_lret C E iX7_valueAt_29 ⟨rfl, rfl⟩

set_option maxRecDepth 100000 in
set_option maxHeartbeats 4000000 in
theorem c_X7_put {Z : GZ} {l : Launch} {kk t : Nat → Nat} {m : Nat} {tb : Nat → Int32} {kf : Nat → Option Nat} {sf : Nat → Int32} {vf : Nat → Int64} {c κ : Nat} {s b : Int32} {v0 : Int64} (hc : c ≤ 400) (hκ : κ < 43)  : Ct Z l yX7_put cX7_put 6 (some .int) (rmK 0) [.ref (kk 0), .ref (zad Z κ), .int s, .long v0, .int b] (wTk Z kk t (nI c) kf sf vf ++ wTp Z t (nI m) tb) (fun v w => v = some (.int b) ∧ w = (wTk Z kk t (nI (c + 1)) (va_up kf c (some (zad Z κ))) (upd sf c s) (vp_updL vf c v0) ++ wTp Z t (nI m) tb)) := by
  refine Ct.ofJ (own := RX7) (nm := "put") (lv0 := [(0, .ref (kk 0)), (1, .ref (zad Z κ)), (2, .int s), (3, .long v0), (5, .int b)]) (by decide) rfl rfl (Nat.le_of_ble_eq_true rfl) rfl (fun X hXl C E => ?_)
  subst hXl
  refine J_aload_n C iX7_put_0 rfl rfl ?_
  refine J_get (.int (nI c)) 0 C iX7_put_1 gf_X7_29 rfl rfl ?_
  refine J_iflt 57 C iX7_put_4 rfl (fun h4 => absurd h4 (nI_pos (n := c) (by omega))) (fun h4 => ?_)
  refine J_aload_n C iX7_put_7 rfl rfl ?_
  refine J_get (.int (nI c)) 0 C iX7_put_8 gf_X7_29 rfl rfl ?_
  refine J_sipush 400 C iX7_put_11 rfl ?_
  refine J_icmpgt 57 C iX7_put_14 rfl (fun h14 => absurd h14 (nI_nlt (a := 400) (b := c) (by omega) (by omega))) (fun h14 => ?_)
  refine J_aload_n C iX7_put_17 rfl rfl ?_
  refine J_get (.ref (kk 1)) 0 C iX7_put_18 gf_X7_11 rfl rfl ?_
  refine J_aload_n C iX7_put_21 rfl rfl ?_
  refine J_get (.int (nI c)) 0 C iX7_put_22 gf_X7_29 rfl rfl ?_
  refine J_aload_n C iX7_put_25 rfl rfl ?_
  refine J_aastK (wTk Z kk t (nI c) (va_up kf (nI c).toNatClampNeg (some (zad Z κ))) sf vf ++ wTp Z t (nI m) tb) 1 C iX7_put_26 hκ rfl (vp_in_nI (n := c) (by omega) (by decide)) rfl ?_
  rw [nI_clamp (n := c) (by omega)]
  refine J_aload_n C iX7_put_27 rfl rfl ?_
  refine J_get (.ref (kk 2)) 0 C iX7_put_28 gf_X7_17 rfl rfl ?_
  refine J_aload_n C iX7_put_31 rfl rfl ?_
  refine J_get (.int (nI c)) 0 C iX7_put_32 gf_X7_29 rfl rfl ?_
  refine J_iload_n C iX7_put_35 rfl rfl ?_
  refine J_iast (wTk Z kk t (nI c) (va_up kf c (some (zad Z κ))) (upd sf (nI c).toNatClampNeg s) vf ++ wTp Z t (nI m) tb) 2 C iX7_put_36 rfl (vp_in_nI (n := c) (by omega) (by decide)) rfl ?_
  rw [nI_clamp (n := c) (by omega)]
  refine J_aload_n C iX7_put_37 rfl rfl ?_
  refine J_get (.ref (kk 3)) 0 C iX7_put_38 gf_X7_21 rfl rfl ?_
  refine J_aload_n C iX7_put_41 rfl rfl ?_
  refine J_get (.int (nI c)) 0 C iX7_put_42 gf_X7_29 rfl rfl ?_
  refine J_lload_n C iX7_put_45 rfl rfl ?_
  refine J_last (wTk Z kk t (nI c) (va_up kf c (some (zad Z κ))) (upd sf c s) (vp_updL vf (nI c).toNatClampNeg v0) ++ wTp Z t (nI m) tb) 3 C iX7_put_46 rfl (vp_in_nI (n := c) (by omega) (by decide)) rfl ?_
  rw [nI_clamp (n := c) (by omega)]
  refine J_aload_n C iX7_put_47 rfl rfl ?_
  refine J_dup C iX7_put_48 rfl ?_
  refine J_get (.int (nI c)) 0 C iX7_put_49 gf_X7_29 rfl rfl ?_
  refine J_iconst 1 C iX7_put_52 rfl ?_
  refine J_iadd C iX7_put_53 ?_
  rw [show (nI c) + 1 = nI (c + 1) from nI_add _ _]
  refine J_put (wTk Z kk t (nI (c + 1)) (va_up kf c (some (zad Z κ))) (upd sf c s) (vp_updL vf c v0) ++ wTp Z t (nI m) tb) 0 C iX7_put_54 pf_X7_29 rfl rfl rfl (Nat.le_of_ble_eq_true rfl) rfl ?_
  refine J_iload C iX7_put_57 rfl ?_
  exact J_iret C E iX7_put_59 ⟨rfl, rfl⟩

set_option maxRecDepth 100000 in
set_option maxHeartbeats 4000000 in
theorem c_X7_behindBlanks {Z : GZ} {l : Launch} {kk t : Nat → Nat} {m s : Nat} {ct : Int32} {tb : Nat → Int32} {kf : Nat → Option Nat} {sf : Nat → Int32} {vf : Nat → Int64} (hs0 : s ≤ 2000)  : Ct Z l yX7_behindBlanks cX7_behindBlanks 3 (some .int) (rmK 1) [.ref (kk 0), .int (nI s)] (wTk Z kk t ct kf sf vf ++ wTp Z t (nI m) tb) (fun v w => v = some (.int (nI (s + blL m tb s))) ∧ w = (wTk Z kk t ct kf sf vf ++ wTp Z t (nI m) tb)) := by
  refine Ct.ofJ (own := RX7) (nm := "behindBlanks") (lv0 := [(0, .ref (kk 0)), (1, .int (nI s))]) (by decide) rfl rfl (Nat.le_of_ble_eq_true rfl) rfl (fun X hXl C E => ?_)
  subst hXl
  have hbl : s + blL m tb s ≤ 2000 := by
    have := runL_le (q := fun p => isBl (sgN m tb p)) (s := s) (f := 2000 - s)
    simp only [blL]
    omega
  refine J_iload_n C iX7_behindBlanks_0 rfl rfl ?_
  refine J_istore_n [(2, .int (nI s)), (0, .ref (kk 0)), (1, .int (nI s))] C iX7_behindBlanks_1 rfl (by decide) rfl ?_
  refine J_lvm [(2, .int (nI s)), (1, .int (nI s)), (0, .ref (kk 0))] rfl ?_
  refine J_for (fun k => [(2, .int (nI (s + k))), (1, .int (nI s)), (0, .ref (kk 0))]) (fun k => (wTk Z kk t ct kf sf vf ++ wTp Z t (nI m) tb)) (blL m tb s) 0 (by omega) ?_ (fun k hk0 hk ih => ?_)
  · by_cases hs : s + blL m tb s = 2000
    · refine J_iload_n C iX7_behindBlanks_2 rfl rfl ?_
      refine J_sipush 2000 C iX7_behindBlanks_3 rfl ?_
      refine J_icmpge 41 C iX7_behindBlanks_6 rfl (fun h6 => ?_) (fun h6 => absurd (by rw [hs]; exact Int32.le_refl _) h6)
      refine J_iload_n C iX7_behindBlanks_41 rfl rfl ?_
      exact J_iret C E iX7_behindBlanks_42 ⟨rfl, rfl⟩
    · refine J_iload_n C iX7_behindBlanks_2 rfl rfl ?_
      refine J_sipush 2000 C iX7_behindBlanks_3 rfl ?_
      refine J_icmpge 41 C iX7_behindBlanks_6 rfl (fun h6 => absurd h6 (nI_ge (a := s + blL m tb s) (b := 2000) (by omega) (by decide))) (fun h6 => ?_)
      refine J_aload_n C iX7_behindBlanks_9 rfl rfl ?_
      refine J_get (.ref (t 0)) 0 C iX7_behindBlanks_10 gf_X7_25 rfl rfl ?_
      refine J_iload_n C iX7_behindBlanks_13 rfl rfl ?_
      refine J_cVb (As := [.int (nI (s + (blL m tb s)))]) (st := []) (rc2 := (rmK 1).cells) (rs2 := (rmK 1).slots) C iX7_behindBlanks_14 lm_X7_49 yc_X6_signAt yv_X6_signAt c_X6_signAt (q0 := 0) rfl rfl rfl (wTk Z kk t ct kf sf vf) [] rfl rfl ⟨by decide, by decide⟩ (Nat.le_of_ble_eq_true rfl) rfl rfl ?_
      rintro _ _ ⟨rfl, rfl⟩
      refine J_st (.int (sgN m tb (s + (blL m tb s))) :: []) rfl ?_
      refine J_ws (wTk Z kk t ct kf sf vf ++ wTp Z t (nI m) tb) rfl ?_
      refine J_bipush 32 C iX7_behindBlanks_17 rfl ?_
      refine J_icmpeq 35 C iX7_behindBlanks_19 rfl (fun h19 => absurd h19 (bl_f1 (runL_end (q := fun p => isBl (sgN m tb p)) (s := s) (f := 2000 - s) (by simp only [blL] at hs; omega)))) (fun h19 => ?_)
      refine J_aload_n C iX7_behindBlanks_22 rfl rfl ?_
      refine J_get (.ref (t 0)) 0 C iX7_behindBlanks_23 gf_X7_25 rfl rfl ?_
      refine J_iload_n C iX7_behindBlanks_26 rfl rfl ?_
      refine J_cVb (As := [.int (nI (s + (blL m tb s)))]) (st := []) (rc2 := (rmK 1).cells) (rs2 := (rmK 1).slots) C iX7_behindBlanks_27 lm_X7_49 yc_X6_signAt yv_X6_signAt c_X6_signAt (q0 := 0) rfl rfl rfl (wTk Z kk t ct kf sf vf) [] rfl rfl ⟨by decide, by decide⟩ (Nat.le_of_ble_eq_true rfl) rfl rfl ?_
      rintro _ _ ⟨rfl, rfl⟩
      refine J_st (.int (sgN m tb (s + (blL m tb s))) :: []) rfl ?_
      refine J_ws (wTk Z kk t ct kf sf vf ++ wTp Z t (nI m) tb) rfl ?_
      refine J_bipush 10 C iX7_behindBlanks_30 rfl ?_
      refine J_icmpne 41 C iX7_behindBlanks_32 rfl (fun h32 => ?_) (fun h32 => absurd h32 (bl_f2 (runL_end (q := fun p => isBl (sgN m tb p)) (s := s) (f := 2000 - s) (by simp only [blL] at hs; omega))))
      refine J_iload_n C iX7_behindBlanks_41 rfl rfl ?_
      exact J_iret C E iX7_behindBlanks_42 ⟨rfl, rfl⟩
  · refine J_iload_n C iX7_behindBlanks_2 rfl rfl ?_
    refine J_sipush 2000 C iX7_behindBlanks_3 rfl ?_
    refine J_icmpge 41 C iX7_behindBlanks_6 rfl (fun h6 => absurd h6 (nI_ge (a := s + k) (b := 2000) (by have := runL_le (q := fun p => isBl (sgN m tb p)) (s := s) (f := 2000 - s); simp only [blL] at hk; omega) (by decide))) (fun h6 => ?_)
    refine J_aload_n C iX7_behindBlanks_9 rfl rfl ?_
    refine J_get (.ref (t 0)) 0 C iX7_behindBlanks_10 gf_X7_25 rfl rfl ?_
    refine J_iload_n C iX7_behindBlanks_13 rfl rfl ?_
    refine J_cVb (As := [.int (nI (s + k))]) (st := []) (rc2 := (rmK 1).cells) (rs2 := (rmK 1).slots) C iX7_behindBlanks_14 lm_X7_49 yc_X6_signAt yv_X6_signAt c_X6_signAt (q0 := 0) rfl rfl rfl (wTk Z kk t ct kf sf vf) [] rfl rfl ⟨by decide, by decide⟩ (Nat.le_of_ble_eq_true rfl) rfl rfl ?_
    rintro _ _ ⟨rfl, rfl⟩
    refine J_st (.int (sgN m tb (s + k)) :: []) rfl ?_
    refine J_ws (wTk Z kk t ct kf sf vf ++ wTp Z t (nI m) tb) rfl ?_
    refine J_bipush 32 C iX7_behindBlanks_17 rfl ?_
    refine J_icmpeq 35 C iX7_behindBlanks_19 rfl (fun h19 => ?_) (fun h19 => ?_)
    · refine J_iinc ((nI (s + k)) + 1) [(2, .int ((nI (s + k)) + 1)), (1, .int (nI s)), (0, .ref (kk 0))] C iX7_behindBlanks_35 rfl rfl (by decide) rfl ?_
      rw [show (nI (s + k)) + 1 = nI ((s + k) + 1) from nI_add _ _]
      refine J_goto 2 C iX7_behindBlanks_38 rfl ?_
      refine J_lvm [(2, .int (nI ((s + k) + 1))), (1, .int (nI s)), (0, .ref (kk 0))] rfl ?_
      exact ih
    · refine J_aload_n C iX7_behindBlanks_22 rfl rfl ?_
      refine J_get (.ref (t 0)) 0 C iX7_behindBlanks_23 gf_X7_25 rfl rfl ?_
      refine J_iload_n C iX7_behindBlanks_26 rfl rfl ?_
      refine J_cVb (As := [.int (nI (s + k))]) (st := []) (rc2 := (rmK 1).cells) (rs2 := (rmK 1).slots) C iX7_behindBlanks_27 lm_X7_49 yc_X6_signAt yv_X6_signAt c_X6_signAt (q0 := 0) rfl rfl rfl (wTk Z kk t ct kf sf vf) [] rfl rfl ⟨by decide, by decide⟩ (Nat.le_of_ble_eq_true rfl) rfl rfl ?_
      rintro _ _ ⟨rfl, rfl⟩
      refine J_st (.int (sgN m tb (s + k)) :: []) rfl ?_
      refine J_ws (wTk Z kk t ct kf sf vf ++ wTp Z t (nI m) tb) rfl ?_
      refine J_bipush 10 C iX7_behindBlanks_30 rfl ?_
      refine J_icmpne 41 C iX7_behindBlanks_32 rfl (fun h32 => (absurd (runL_in (q := fun p => isBl (sgN m tb p)) hk) (fun q => bl_no q h19 h32))) (fun h32 => ?_)
      refine J_iinc ((nI (s + k)) + 1) [(2, .int ((nI (s + k)) + 1)), (1, .int (nI s)), (0, .ref (kk 0))] C iX7_behindBlanks_35 rfl rfl (by decide) rfl ?_
      rw [show (nI (s + k)) + 1 = nI ((s + k) + 1) from nI_add _ _]
      refine J_goto 2 C iX7_behindBlanks_38 rfl ?_
      refine J_lvm [(2, .int (nI ((s + k) + 1))), (1, .int (nI s)), (0, .ref (kk 0))] rfl ?_
      exact ih

set_option maxRecDepth 100000 in
set_option maxHeartbeats 4000000 in
theorem c_X7_scanSymbol {Z : GZ} {l : Launch} {kk t : Nat → Nat} {m : Nat} {tb : Nat → Int32} {kf : Nat → Option Nat} {sf : Nat → Int32} {vf : Nat → Int64} {c s d : Nat} (hc0 : c ≤ 400) (hc : d < 256) (hs0 : s < 2000)  : Ct Z l yX7_scanSymbol cX7_scanSymbol 5 (some .int) (rmK 1) [.ref (kk 0), .int (nI s), .int (nI d)] (wTk Z kk t (nI c) kf sf vf ++ wTp Z t (nI m) tb) (fun v w => v = some (.int (syN (nI d) (sgN m tb (s + 1)) s)) ∧ w = (wTk Z kk t (nI (c + 1)) (va_up kf c (some (zad Z (syK (nI d) (sgN m tb (s + 1)))))) (upd sf c (nI s)) (vp_updL vf c 0) ++ wTp Z t (nI m) tb)) := by
  refine Ct.ofJ (own := RX7) (nm := "scanSymbol") (lv0 := [(0, .ref (kk 0)), (1, .int (nI s)), (2, .int (nI d))]) (by decide) rfl rfl (Nat.le_of_ble_eq_true rfl) rfl (fun X hXl C E => ?_)
  subst hXl
  refine J_aload_n C iX7_scanSymbol_0 rfl rfl ?_
  refine J_get (.ref (t 0)) 0 C iX7_scanSymbol_1 gf_X7_25 rfl rfl ?_
  refine J_iload_n C iX7_scanSymbol_4 rfl rfl ?_
  refine J_iconst 1 C iX7_scanSymbol_5 rfl ?_
  refine J_iadd C iX7_scanSymbol_6 ?_
  rw [show (nI s) + 1 = nI (s + 1) from nI_add _ _]
  refine J_cVb (As := [.int (nI (s + 1))]) (st := []) (rc2 := (rmK 1).cells) (rs2 := (rmK 1).slots) C iX7_scanSymbol_7 lm_X7_49 yc_X6_signAt yv_X6_signAt c_X6_signAt (q0 := 0) rfl rfl rfl (wTk Z kk t (nI c) kf sf vf) [] rfl rfl ⟨by decide, by decide⟩ (Nat.le_of_ble_eq_true rfl) rfl rfl ?_
  rintro _ _ ⟨rfl, rfl⟩
  refine J_st (.int (sgN m tb (s + 1)) :: []) rfl ?_
  refine J_ws (wTk Z kk t (nI c) kf sf vf ++ wTp Z t (nI m) tb) rfl ?_
  refine J_bipush 61 C iX7_scanSymbol_10 rfl ?_
  refine J_icmpne 19 C iX7_scanSymbol_12 rfl (fun h12 => ?_) (fun h12 => ?_)
  · refine J_iconst 0 C iX7_scanSymbol_19 rfl ?_
    refine J_istore_n [(3, .int 0), (0, .ref (kk 0)), (1, .int (nI s)), (2, .int (nI d))] C iX7_scanSymbol_20 rfl (by decide) rfl ?_
    refine J_iload_n C iX7_scanSymbol_21 rfl rfl ?_
    refine J_ifeq 44 C iX7_scanSymbol_22 rfl (fun h22 => ?_) (fun h22 => absurd (by decide) h22)
    refine J_iload_n C iX7_scanSymbol_44 rfl rfl ?_
    refine J_ifeq 67 C iX7_scanSymbol_45 rfl (fun h45 => ?_) (fun h45 => absurd (by decide) h45)
    refine J_iload_n C iX7_scanSymbol_67 rfl rfl ?_
    refine J_cSp (As := [.int (nI d)]) (st := []) C iX7_scanSymbol_68 lm_X7_101 yc_X7_symbol ys_X7_symbol (c_X7_symbol hc) rfl ⟨by decide, by decide⟩ (Nat.le_of_ble_eq_true rfl) ⟨rfl, rfl⟩ ?_
    rintro _ rfl
    refine J_st (.ref (zad Z (symK (nI d))) :: []) rfl ?_
    refine J_astore [(4, .ref (zad Z (symK (nI d)))), (3, .int 0), (0, .ref (kk 0)), (1, .int (nI s)), (2, .int (nI d))] C iX7_scanSymbol_71 (by decide) rfl ?_
    refine J_aload_n C iX7_scanSymbol_73 rfl rfl ?_
    refine J_aload C iX7_scanSymbol_74 rfl ?_
    refine J_iload_n C iX7_scanSymbol_76 rfl rfl ?_
    refine J_lconst 0 C iX7_scanSymbol_77 rfl ?_
    refine J_aload C iX7_scanSymbol_78 rfl ?_
    refine J_getsK C iX7_scanSymbol_80 kf_X7_56 ?_
    by_cases hs83 : (symK (nI d)) = 42
    · refine J_acmpne 90 C iX7_scanSymbol_83 rfl (fun h83 => absurd (congrArg (zad Z) hs83) h83) (fun h83 => ?_)
      refine J_iconst (-1) C iX7_scanSymbol_86 rfl ?_
      refine J_goto 93 C iX7_scanSymbol_87 rfl ?_
      refine J_cV (As := [.ref (zad Z (symK (nI d))), .int (nI s), .long 0, .int (-1)]) (st := []) (rc2 := (rmK 1).cells) (rs2 := (rmK 1).slots) C iX7_scanSymbol_93 lm_X7_52 yc_X7_put yv_X7_put (c_X7_put (c := c) (κ := symK (nI d)) (by omega) (symK_lt _)) (q0 := 0) rfl rfl rfl rfl ⟨by decide, by decide⟩ (Nat.le_of_ble_eq_true rfl) rfl rfl ?_
      rintro _ _ ⟨rfl, rfl⟩
      refine J_st (.int (-1) :: []) rfl ?_
      exact J_iret C E iX7_scanSymbol_96 ⟨by simp [syN, h12, h22, h45, hs83, h83], by simp [syK, h12, h22, h45, hs83, h83]⟩
    · refine J_acmpne 90 C iX7_scanSymbol_83 rfl (fun h83 => ?_) (fun h83 => absurd h83 (fun e => hs83 (zad_inj C (symK_lt _) (by decide) e)))
      refine J_iload_n C iX7_scanSymbol_90 rfl rfl ?_
      refine J_iconst 1 C iX7_scanSymbol_91 rfl ?_
      refine J_iadd C iX7_scanSymbol_92 ?_
      rw [show (nI s) + 1 = nI (s + 1) from nI_add _ _]
      refine J_cV (As := [.ref (zad Z (symK (nI d))), .int (nI s), .long 0, .int (nI (s + 1))]) (st := []) (rc2 := (rmK 1).cells) (rs2 := (rmK 1).slots) C iX7_scanSymbol_93 lm_X7_52 yc_X7_put yv_X7_put (c_X7_put (c := c) (κ := symK (nI d)) (by omega) (symK_lt _)) (q0 := 0) rfl rfl rfl rfl ⟨by decide, by decide⟩ (Nat.le_of_ble_eq_true rfl) rfl rfl ?_
      rintro _ _ ⟨rfl, rfl⟩
      refine J_st (.int (nI (s + 1)) :: []) rfl ?_
      exact J_iret C E iX7_scanSymbol_96 ⟨by simp [syN, h12, h22, h45, hs83, h83], by simp [syK, h12, h22, h45, hs83, h83]⟩
  · refine J_iconst 1 C iX7_scanSymbol_15 rfl ?_
    refine J_goto 20 C iX7_scanSymbol_16 rfl ?_
    refine J_istore_n [(3, .int 1), (0, .ref (kk 0)), (1, .int (nI s)), (2, .int (nI d))] C iX7_scanSymbol_20 rfl (by decide) rfl ?_
    refine J_iload_n C iX7_scanSymbol_21 rfl rfl ?_
    refine J_ifeq 44 C iX7_scanSymbol_22 rfl (fun h22 => absurd h22 (by decide)) (fun h22 => ?_)
    refine J_iload_n C iX7_scanSymbol_25 rfl rfl ?_
    refine J_bipush 60 C iX7_scanSymbol_26 rfl ?_
    refine J_icmpne 44 C iX7_scanSymbol_28 rfl (fun h28 => ?_) (fun h28 => ?_)
    · refine J_iload_n C iX7_scanSymbol_44 rfl rfl ?_
      refine J_ifeq 67 C iX7_scanSymbol_45 rfl (fun h45 => absurd h45 (by decide)) (fun h45 => ?_)
      refine J_iload_n C iX7_scanSymbol_48 rfl rfl ?_
      refine J_bipush 62 C iX7_scanSymbol_49 rfl ?_
      refine J_icmpne 67 C iX7_scanSymbol_51 rfl (fun h51 => ?_) (fun h51 => ?_)
      · refine J_iload_n C iX7_scanSymbol_67 rfl rfl ?_
        refine J_cSp (As := [.int (nI d)]) (st := []) C iX7_scanSymbol_68 lm_X7_101 yc_X7_symbol ys_X7_symbol (c_X7_symbol hc) rfl ⟨by decide, by decide⟩ (Nat.le_of_ble_eq_true rfl) ⟨rfl, rfl⟩ ?_
        rintro _ rfl
        refine J_st (.ref (zad Z (symK (nI d))) :: []) rfl ?_
        refine J_astore [(4, .ref (zad Z (symK (nI d)))), (3, .int 1), (0, .ref (kk 0)), (1, .int (nI s)), (2, .int (nI d))] C iX7_scanSymbol_71 (by decide) rfl ?_
        refine J_aload_n C iX7_scanSymbol_73 rfl rfl ?_
        refine J_aload C iX7_scanSymbol_74 rfl ?_
        refine J_iload_n C iX7_scanSymbol_76 rfl rfl ?_
        refine J_lconst 0 C iX7_scanSymbol_77 rfl ?_
        refine J_aload C iX7_scanSymbol_78 rfl ?_
        refine J_getsK C iX7_scanSymbol_80 kf_X7_56 ?_
        by_cases hs83 : (symK (nI d)) = 42
        · refine J_acmpne 90 C iX7_scanSymbol_83 rfl (fun h83 => absurd (congrArg (zad Z) hs83) h83) (fun h83 => ?_)
          refine J_iconst (-1) C iX7_scanSymbol_86 rfl ?_
          refine J_goto 93 C iX7_scanSymbol_87 rfl ?_
          refine J_cV (As := [.ref (zad Z (symK (nI d))), .int (nI s), .long 0, .int (-1)]) (st := []) (rc2 := (rmK 1).cells) (rs2 := (rmK 1).slots) C iX7_scanSymbol_93 lm_X7_52 yc_X7_put yv_X7_put (c_X7_put (c := c) (κ := symK (nI d)) (by omega) (symK_lt _)) (q0 := 0) rfl rfl rfl rfl ⟨by decide, by decide⟩ (Nat.le_of_ble_eq_true rfl) rfl rfl ?_
          rintro _ _ ⟨rfl, rfl⟩
          refine J_st (.int (-1) :: []) rfl ?_
          exact J_iret C E iX7_scanSymbol_96 ⟨by simp [syN, h12, h22, h28, h45, h51, hs83, h83], by simp [syK, h12, h22, h28, h45, h51, hs83, h83]⟩
        · refine J_acmpne 90 C iX7_scanSymbol_83 rfl (fun h83 => ?_) (fun h83 => absurd h83 (fun e => hs83 (zad_inj C (symK_lt _) (by decide) e)))
          refine J_iload_n C iX7_scanSymbol_90 rfl rfl ?_
          refine J_iconst 1 C iX7_scanSymbol_91 rfl ?_
          refine J_iadd C iX7_scanSymbol_92 ?_
          rw [show (nI s) + 1 = nI (s + 1) from nI_add _ _]
          refine J_cV (As := [.ref (zad Z (symK (nI d))), .int (nI s), .long 0, .int (nI (s + 1))]) (st := []) (rc2 := (rmK 1).cells) (rs2 := (rmK 1).slots) C iX7_scanSymbol_93 lm_X7_52 yc_X7_put yv_X7_put (c_X7_put (c := c) (κ := symK (nI d)) (by omega) (symK_lt _)) (q0 := 0) rfl rfl rfl rfl ⟨by decide, by decide⟩ (Nat.le_of_ble_eq_true rfl) rfl rfl ?_
          rintro _ _ ⟨rfl, rfl⟩
          refine J_st (.int (nI (s + 1)) :: []) rfl ?_
          exact J_iret C E iX7_scanSymbol_96 ⟨by simp [syN, h12, h22, h28, h45, h51, hs83, h83], by simp [syK, h12, h22, h28, h45, h51, hs83, h83]⟩
      · refine J_aload_n C iX7_scanSymbol_54 rfl rfl ?_
        refine J_getsK C iX7_scanSymbol_55 kf_X7_98 ?_
        refine J_iload_n C iX7_scanSymbol_58 rfl rfl ?_
        refine J_lconst 0 C iX7_scanSymbol_59 rfl ?_
        refine J_iload_n C iX7_scanSymbol_60 rfl rfl ?_
        refine J_iconst 2 C iX7_scanSymbol_61 rfl ?_
        refine J_iadd C iX7_scanSymbol_62 ?_
        rw [show (nI s) + 2 = nI (s + 2) from nI_add _ _]
        refine J_cV (As := [.ref (zad Z 38), .int (nI s), .long 0, .int (nI (s + 2))]) (st := []) (rc2 := (rmK 1).cells) (rs2 := (rmK 1).slots) C iX7_scanSymbol_63 lm_X7_52 yc_X7_put yv_X7_put (c_X7_put (c := c) (κ := 38) (by omega) (by decide)) (q0 := 0) rfl rfl rfl rfl ⟨by decide, by decide⟩ (Nat.le_of_ble_eq_true rfl) rfl rfl ?_
        rintro _ _ ⟨rfl, rfl⟩
        refine J_st (.int (nI (s + 2)) :: []) rfl ?_
        exact J_iret C E iX7_scanSymbol_66 ⟨by simp [syN, h12, h22, h28, h45, h51], by simp [syK, h12, h22, h28, h45, h51]⟩
    · refine J_aload_n C iX7_scanSymbol_31 rfl rfl ?_
      refine J_getsK C iX7_scanSymbol_32 kf_X7_95 ?_
      refine J_iload_n C iX7_scanSymbol_35 rfl rfl ?_
      refine J_lconst 0 C iX7_scanSymbol_36 rfl ?_
      refine J_iload_n C iX7_scanSymbol_37 rfl rfl ?_
      refine J_iconst 2 C iX7_scanSymbol_38 rfl ?_
      refine J_iadd C iX7_scanSymbol_39 ?_
      rw [show (nI s) + 2 = nI (s + 2) from nI_add _ _]
      refine J_cV (As := [.ref (zad Z 37), .int (nI s), .long 0, .int (nI (s + 2))]) (st := []) (rc2 := (rmK 1).cells) (rs2 := (rmK 1).slots) C iX7_scanSymbol_40 lm_X7_52 yc_X7_put yv_X7_put (c_X7_put (c := c) (κ := 37) (by omega) (by decide)) (q0 := 0) rfl rfl rfl rfl ⟨by decide, by decide⟩ (Nat.le_of_ble_eq_true rfl) rfl rfl ?_
      rintro _ _ ⟨rfl, rfl⟩
      refine J_st (.int (nI (s + 2)) :: []) rfl ?_
      exact J_iret C E iX7_scanSymbol_43 ⟨by simp [syN, h12, h22, h28], by simp [syK, h12, h22, h28]⟩

theorem or_f {a b : Bool} (h : (a || b) = false) : a = false ∧ b = false := by simpa using h
theorem or_t {a b : Bool} (h : (a || b) = true) (ha : a = false) : b = true := by simpa [ha] using h
set_option maxRecDepth 100000 in
set_option maxHeartbeats 4000000 in
theorem c_X7_scanWord {Z : GZ} {l : Launch} {kk t : Nat → Nat} {m : Nat} {tb : Nat → Int32} {kf : Nat → Option Nat} {sf : Nat → Int32} {vf : Nat → Int64} {c s : Nat} (hc0 : c ≤ 400) (hs0 : s ≤ 2000)  : Ct Z l yX7_scanWord cX7_scanWord 9 (some .int) (rmK 1) [.ref (kk 0), .int (nI s)] (wTk Z kk t (nI c) kf sf vf ++ wTp Z t (nI m) tb) (fun v w => v = some (.int (wdN m tb s)) ∧ w = (wTk Z kk t (nI (c + 1)) (va_up kf c (some (zad Z (wdK m tb s)))) (upd sf c (nI s)) (vp_updL vf c (wdV m tb s)) ++ wTp Z t (nI m) tb)) := by
  refine Ct.ofJ (own := RX7) (nm := "scanWord") (lv0 := [(0, .ref (kk 0)), (1, .int (nI s))]) (by decide) rfl rfl (Nat.le_of_ble_eq_true rfl) rfl (fun X hXl C E => ?_)
  subst hXl
  have hwl : s + wdL m tb s ≤ 2000 := by
    have := runL_le (q := (fun p => isLet (sgN m tb p) || isDig (sgN m tb p))) (s := s) (f := 2000 - s)
    simp only [wdL]
    omega
  refine J_lconst 0 C iX7_scanWord_0 rfl ?_
  refine J_lstore_n [(2, .long 0), (0, .ref (kk 0)), (1, .int (nI s))] C iX7_scanWord_1 rfl (by decide) rfl ?_
  refine J_iload_n C iX7_scanWord_2 rfl rfl ?_
  refine J_istore [(4, .int (nI s)), (2, .long 0), (0, .ref (kk 0)), (1, .int (nI s))] C iX7_scanWord_3 (by decide) rfl ?_
  refine J_lvm [(4, .int (nI s)), (2, .long (wVal m tb s 0)), (1, .int (nI s)), (0, .ref (kk 0))] rfl ?_
  refine J_for (fun k => [(4, .int (nI (s + k))), (2, .long (wVal m tb s k)), (1, .int (nI s)), (0, .ref (kk 0))]) (fun k => (wTk Z kk t (nI c) kf sf vf ++ wTp Z t (nI m) tb)) (wdL m tb s) 0 (by omega) ?_ (fun k hk0 hk ih => ?_)
  · by_cases hs : s + wdL m tb s = 2000
    · refine J_iload C iX7_scanWord_5 rfl ?_
      refine J_sipush 2000 C iX7_scanWord_7 rfl ?_
      refine J_icmpge 63 C iX7_scanWord_10 rfl (fun h10 => ?_) (fun h10 => absurd (by rw [hs]; exact Int32.le_refl _) h10)
      refine J_iload C iX7_scanWord_63 rfl ?_
      refine J_iload_n C iX7_scanWord_65 rfl rfl ?_
      refine J_isub C iX7_scanWord_66 ?_
      rw [show (nI (s + (wdL m tb s))) - (nI s) = nI (wdL m tb s) from sub_nI _ _]
      refine J_bipush 10 C iX7_scanWord_67 rfl ?_
      by_cases hs69 : (wdL m tb s) ≤ 10
      · refine J_icmple 83 C iX7_scanWord_69 rfl (fun h69 => ?_) (fun h69 => absurd (nI_le (a := (wdL m tb s)) (b := 10) (by omega) (by omega)) h69)
        refine J_getsKINDS C iX7_scanWord_83 sk_X7_80 ?_
        refine J_astore [(5, .ref (zms Z 0)), (4, .int (nI (s + (wdL m tb s)))), (2, .long (wVal m tb s (wdL m tb s))), (1, .int (nI s)), (0, .ref (kk 0))] C iX7_scanWord_86 (by decide) rfl ?_
        refine J_aload C iX7_scanWord_88 rfl ?_
        refine J_alenC 43 C iX7_scanWord_90 C.2.2.2.2.2.2.1.2.2.2.1 rfl ?_
        refine J_istore [(6, .int 43), (5, .ref (zms Z 0)), (4, .int (nI (s + (wdL m tb s)))), (2, .long (wVal m tb s (wdL m tb s))), (1, .int (nI s)), (0, .ref (kk 0))] C iX7_scanWord_91 (by decide) rfl ?_
        refine J_iconst 0 C iX7_scanWord_93 rfl ?_
        refine J_istore [(7, .int 0), (6, .int 43), (5, .ref (zms Z 0)), (4, .int (nI (s + (wdL m tb s)))), (2, .long (wVal m tb s (wdL m tb s))), (1, .int (nI s)), (0, .ref (kk 0))] C iX7_scanWord_94 (by decide) rfl ?_
        refine J_lvm [(7, .int 0), (6, .int 43), (5, .ref (zms Z 0)), (4, .int (nI (s + wdL m tb s))), (2, .long (wVal m tb s (wdL m tb s))), (1, .int (nI s)), (0, .ref (kk 0))] rfl ?_
        refine J_forP (fun j => [(7, .int (nI j)), (6, .int 43), (5, .ref (zms Z 0)), (4, .int (nI (s + wdL m tb s))), (2, .long (wVal m tb s (wdL m tb s))), (1, .int (nI s)), (0, .ref (kk 0))]) (fun j => (wTk Z kk t (nI c) kf sf vf ++ wTp Z t (nI m) tb)) (fun j => ∀ i, i < j → ¬ kWd.getD i 0 = wVal m tb s (wdL m tb s)) 43 0 (by omega) (fun _ h => absurd h (Nat.not_lt_zero _)) (fun hI => ?_) (fun j hj0 hj hI ihj => ?_)
        · refine J_iload C iX7_scanWord_96 rfl ?_
          refine J_iload C iX7_scanWord_98 rfl ?_
          refine J_icmpge 137 C iX7_scanWord_100 rfl (fun h100 => ?_) (fun h100 => absurd (by decide) h100)
          refine J_aload_n C iX7_scanWord_137 rfl rfl ?_
          refine J_getsK C iX7_scanWord_138 kf_X7_87 ?_
          refine J_iload_n C iX7_scanWord_141 rfl rfl ?_
          refine J_lload_n C iX7_scanWord_142 rfl rfl ?_
          refine J_iload C iX7_scanWord_143 rfl ?_
          refine J_cV (As := [.ref (zad Z 39), .int (nI s), .long (wVal m tb s (wdL m tb s)), .int (nI (s + wdL m tb s))]) (st := []) (rc2 := (rmK 1).cells) (rs2 := (rmK 1).slots) C iX7_scanWord_145 lm_X7_52 yc_X7_put yv_X7_put (c_X7_put (c := c) (κ := 39) (by omega) (by decide)) (q0 := 0) rfl rfl rfl rfl ⟨by decide, by decide⟩ (Nat.le_of_ble_eq_true rfl) rfl rfl ?_
          rintro _ _ ⟨rfl, rfl⟩
          refine J_st (.int (nI (s + wdL m tb s)) :: []) rfl ?_
          exact J_iret C E iX7_scanWord_148 ⟨by rw [wdN, if_pos hs69], by rw [wdK, wdV, if_pos hs69, if_pos hs69, kwO_none hI]; rfl⟩
        · refine J_iload C iX7_scanWord_96 rfl ?_
          refine J_iload C iX7_scanWord_98 rfl ?_
          refine J_icmpge 137 C iX7_scanWord_100 rfl (fun h100 => absurd h100 (nI_ge (a := j) (b := 43) (by omega) (by decide))) (fun h100 => ?_)
          refine J_aload C iX7_scanWord_103 rfl ?_
          refine J_iload C iX7_scanWord_105 rfl ?_
          refine J_aaldKINDS C iX7_scanWord_107 (vp_in_nI (n := j) (by omega) (by decide)) ?_
          rw [nI_clamp (n := j) (by omega)]
          refine J_astore [(8, .ref (zad Z j)), (7, .int (nI j)), (6, .int 43), (5, .ref (zms Z 0)), (4, .int (nI (s + wdL m tb s))), (2, .long (wVal m tb s (wdL m tb s))), (1, .int (nI s)), (0, .ref (kk 0))] C iX7_scanWord_108 (by decide) rfl ?_
          refine J_aload C iX7_scanWord_110 rfl ?_
          refine J_getKw C iX7_scanWord_112 (by omega) kw_X7_83 ?_
          refine J_lload_n C iX7_scanWord_115 rfl rfl ?_
          refine J_lcmp C iX7_scanWord_116 ?_
          refine J_ifneL 131 C iX7_scanWord_117 rfl (fun h117 => ?_) (fun h117 => ?_)
          · refine J_iinc ((nI j) + 1) [(7, .int ((nI j) + 1)), (8, .ref (zad Z j)), (6, .int 43), (5, .ref (zms Z 0)), (4, .int (nI (s + wdL m tb s))), (2, .long (wVal m tb s (wdL m tb s))), (1, .int (nI s)), (0, .ref (kk 0))] C iX7_scanWord_131 rfl rfl (by decide) rfl ?_
            rw [show (nI j) + 1 = nI (j + 1) from nI_add _ _]
            refine J_goto 96 C iX7_scanWord_134 rfl ?_
            refine J_lvm [(7, .int (nI (j + 1))), (6, .int 43), (5, .ref (zms Z 0)), (4, .int (nI (s + wdL m tb s))), (2, .long (wVal m tb s (wdL m tb s))), (1, .int (nI s)), (0, .ref (kk 0))] rfl ?_
            exact ihj (lt_s hI h117)
          · refine J_aload_n C iX7_scanWord_120 rfl rfl ?_
            refine J_aload C iX7_scanWord_121 rfl ?_
            refine J_iload_n C iX7_scanWord_123 rfl rfl ?_
            refine J_lconst 0 C iX7_scanWord_124 rfl ?_
            refine J_iload C iX7_scanWord_125 rfl ?_
            refine J_cV (As := [.ref (zad Z j), .int (nI s), .long 0, .int (nI (s + wdL m tb s))]) (st := []) (rc2 := (rmK 1).cells) (rs2 := (rmK 1).slots) C iX7_scanWord_127 lm_X7_52 yc_X7_put yv_X7_put (c_X7_put (c := c) (κ := j) (by omega) (by omega)) (q0 := 0) rfl rfl rfl rfl ⟨by decide, by decide⟩ (Nat.le_of_ble_eq_true rfl) rfl rfl ?_
            rintro _ _ ⟨rfl, rfl⟩
            refine J_st (.int (nI (s + wdL m tb s)) :: []) rfl ?_
            exact J_iret C E iX7_scanWord_130 ⟨by rw [wdN, if_pos hs69], by rw [wdK, wdV, if_pos hs69, if_pos hs69, kwO_some hj h117 hI]; rfl⟩
      · refine J_icmple 83 C iX7_scanWord_69 rfl (fun h69 => absurd h69 (nI_ge (a := 10) (b := (wdL m tb s)) (by omega) (by omega))) (fun h69 => ?_)
        refine J_aload_n C iX7_scanWord_72 rfl rfl ?_
        refine J_getsK C iX7_scanWord_73 kf_X7_56 ?_
        refine J_iload_n C iX7_scanWord_76 rfl rfl ?_
        refine J_lconst 0 C iX7_scanWord_77 rfl ?_
        refine J_iconst (-1) C iX7_scanWord_78 rfl ?_
        refine J_cV (As := [.ref (zad Z 42), .int (nI s), .long 0, .int (-1)]) (st := []) (rc2 := (rmK 1).cells) (rs2 := (rmK 1).slots) C iX7_scanWord_79 lm_X7_52 yc_X7_put yv_X7_put (c_X7_put (c := c) (κ := 42) (by omega) (by decide)) (q0 := 0) rfl rfl rfl rfl ⟨by decide, by decide⟩ (Nat.le_of_ble_eq_true rfl) rfl rfl ?_
        rintro _ _ ⟨rfl, rfl⟩
        refine J_st (.int (-1) :: []) rfl ?_
        exact J_iret C E iX7_scanWord_82 ⟨by rw [wdN, if_neg hs69], by rw [wdK, wdV, if_neg hs69, if_neg hs69]⟩
    · refine J_iload C iX7_scanWord_5 rfl ?_
      refine J_sipush 2000 C iX7_scanWord_7 rfl ?_
      refine J_icmpge 63 C iX7_scanWord_10 rfl (fun h10 => absurd h10 (nI_ge (a := s + wdL m tb s) (b := 2000) (by omega) (by decide))) (fun h10 => ?_)
      refine J_aload_n C iX7_scanWord_13 rfl rfl ?_
      refine J_get (.ref (t 0)) 0 C iX7_scanWord_14 gf_X7_25 rfl rfl ?_
      refine J_iload C iX7_scanWord_17 rfl ?_
      refine J_cVb (As := [.int (nI (s + (wdL m tb s)))]) (st := []) (rc2 := (rmK 1).cells) (rs2 := (rmK 1).slots) C iX7_scanWord_19 lm_X7_49 yc_X6_signAt yv_X6_signAt c_X6_signAt (q0 := 0) rfl rfl rfl (wTk Z kk t (nI c) kf sf vf) [] rfl rfl ⟨by decide, by decide⟩ (Nat.le_of_ble_eq_true rfl) rfl rfl ?_
      rintro _ _ ⟨rfl, rfl⟩
      refine J_st (.int (sgN m tb (s + (wdL m tb s))) :: []) rfl ?_
      refine J_ws (wTk Z kk t (nI c) kf sf vf ++ wTp Z t (nI m) tb) rfl ?_
      refine J_cSp (As := [.int (sgN m tb (s + (wdL m tb s)))]) (st := []) C iX7_scanWord_22 lm_X7_59 yc_X7_isLetter ys_X7_isLetter c_X7_isLetter rfl ⟨by decide, by decide⟩ (Nat.le_of_ble_eq_true rfl) ⟨rfl, rfl⟩ ?_
      rintro _ rfl
      refine J_st (.int (b2i (isLet (sgN m tb (s + (wdL m tb s))))) :: []) rfl ?_
      refine J_ifneb 43 C iX7_scanWord_25 rfl (fun h25 => absurd (h25.symm.trans (or_f (runL_end (q := (fun p => isLet (sgN m tb p) || isDig (sgN m tb p))) (s := s) (f := 2000 - s) (by simp only [wdL] at hs hwl; omega))).1) (by decide)) (fun h25 => ?_)
      refine J_aload_n C iX7_scanWord_28 rfl rfl ?_
      refine J_get (.ref (t 0)) 0 C iX7_scanWord_29 gf_X7_25 rfl rfl ?_
      refine J_iload C iX7_scanWord_32 rfl ?_
      refine J_cVb (As := [.int (nI (s + (wdL m tb s)))]) (st := []) (rc2 := (rmK 1).cells) (rs2 := (rmK 1).slots) C iX7_scanWord_34 lm_X7_49 yc_X6_signAt yv_X6_signAt c_X6_signAt (q0 := 0) rfl rfl rfl (wTk Z kk t (nI c) kf sf vf) [] rfl rfl ⟨by decide, by decide⟩ (Nat.le_of_ble_eq_true rfl) rfl rfl ?_
      rintro _ _ ⟨rfl, rfl⟩
      refine J_st (.int (sgN m tb (s + (wdL m tb s))) :: []) rfl ?_
      refine J_ws (wTk Z kk t (nI c) kf sf vf ++ wTp Z t (nI m) tb) rfl ?_
      refine J_cSp (As := [.int (sgN m tb (s + (wdL m tb s)))]) (st := []) C iX7_scanWord_37 lm_X7_66 yc_X7_isDigit ys_X7_isDigit c_X7_isDigit rfl ⟨by decide, by decide⟩ (Nat.le_of_ble_eq_true rfl) ⟨rfl, rfl⟩ ?_
      rintro _ rfl
      refine J_st (.int (b2i (isDig (sgN m tb (s + (wdL m tb s))))) :: []) rfl ?_
      refine J_ifeqb 63 C iX7_scanWord_40 rfl (fun h40 => ?_) (fun h40 => absurd (h40.symm.trans (or_f (runL_end (q := (fun p => isLet (sgN m tb p) || isDig (sgN m tb p))) (s := s) (f := 2000 - s) (by simp only [wdL] at hs hwl; omega))).2) (by decide))
      refine J_iload C iX7_scanWord_63 rfl ?_
      refine J_iload_n C iX7_scanWord_65 rfl rfl ?_
      refine J_isub C iX7_scanWord_66 ?_
      rw [show (nI (s + (wdL m tb s))) - (nI s) = nI (wdL m tb s) from sub_nI _ _]
      refine J_bipush 10 C iX7_scanWord_67 rfl ?_
      by_cases hs69 : (wdL m tb s) ≤ 10
      · refine J_icmple 83 C iX7_scanWord_69 rfl (fun h69 => ?_) (fun h69 => absurd (nI_le (a := (wdL m tb s)) (b := 10) (by omega) (by omega)) h69)
        refine J_getsKINDS C iX7_scanWord_83 sk_X7_80 ?_
        refine J_astore [(5, .ref (zms Z 0)), (4, .int (nI (s + (wdL m tb s)))), (2, .long (wVal m tb s (wdL m tb s))), (1, .int (nI s)), (0, .ref (kk 0))] C iX7_scanWord_86 (by decide) rfl ?_
        refine J_aload C iX7_scanWord_88 rfl ?_
        refine J_alenC 43 C iX7_scanWord_90 C.2.2.2.2.2.2.1.2.2.2.1 rfl ?_
        refine J_istore [(6, .int 43), (5, .ref (zms Z 0)), (4, .int (nI (s + (wdL m tb s)))), (2, .long (wVal m tb s (wdL m tb s))), (1, .int (nI s)), (0, .ref (kk 0))] C iX7_scanWord_91 (by decide) rfl ?_
        refine J_iconst 0 C iX7_scanWord_93 rfl ?_
        refine J_istore [(7, .int 0), (6, .int 43), (5, .ref (zms Z 0)), (4, .int (nI (s + (wdL m tb s)))), (2, .long (wVal m tb s (wdL m tb s))), (1, .int (nI s)), (0, .ref (kk 0))] C iX7_scanWord_94 (by decide) rfl ?_
        refine J_lvm [(7, .int 0), (6, .int 43), (5, .ref (zms Z 0)), (4, .int (nI (s + wdL m tb s))), (2, .long (wVal m tb s (wdL m tb s))), (1, .int (nI s)), (0, .ref (kk 0))] rfl ?_
        refine J_forP (fun j => [(7, .int (nI j)), (6, .int 43), (5, .ref (zms Z 0)), (4, .int (nI (s + wdL m tb s))), (2, .long (wVal m tb s (wdL m tb s))), (1, .int (nI s)), (0, .ref (kk 0))]) (fun j => (wTk Z kk t (nI c) kf sf vf ++ wTp Z t (nI m) tb)) (fun j => ∀ i, i < j → ¬ kWd.getD i 0 = wVal m tb s (wdL m tb s)) 43 0 (by omega) (fun _ h => absurd h (Nat.not_lt_zero _)) (fun hI => ?_) (fun j hj0 hj hI ihj => ?_)
        · refine J_iload C iX7_scanWord_96 rfl ?_
          refine J_iload C iX7_scanWord_98 rfl ?_
          refine J_icmpge 137 C iX7_scanWord_100 rfl (fun h100 => ?_) (fun h100 => absurd (by decide) h100)
          refine J_aload_n C iX7_scanWord_137 rfl rfl ?_
          refine J_getsK C iX7_scanWord_138 kf_X7_87 ?_
          refine J_iload_n C iX7_scanWord_141 rfl rfl ?_
          refine J_lload_n C iX7_scanWord_142 rfl rfl ?_
          refine J_iload C iX7_scanWord_143 rfl ?_
          refine J_cV (As := [.ref (zad Z 39), .int (nI s), .long (wVal m tb s (wdL m tb s)), .int (nI (s + wdL m tb s))]) (st := []) (rc2 := (rmK 1).cells) (rs2 := (rmK 1).slots) C iX7_scanWord_145 lm_X7_52 yc_X7_put yv_X7_put (c_X7_put (c := c) (κ := 39) (by omega) (by decide)) (q0 := 0) rfl rfl rfl rfl ⟨by decide, by decide⟩ (Nat.le_of_ble_eq_true rfl) rfl rfl ?_
          rintro _ _ ⟨rfl, rfl⟩
          refine J_st (.int (nI (s + wdL m tb s)) :: []) rfl ?_
          exact J_iret C E iX7_scanWord_148 ⟨by rw [wdN, if_pos hs69], by rw [wdK, wdV, if_pos hs69, if_pos hs69, kwO_none hI]; rfl⟩
        · refine J_iload C iX7_scanWord_96 rfl ?_
          refine J_iload C iX7_scanWord_98 rfl ?_
          refine J_icmpge 137 C iX7_scanWord_100 rfl (fun h100 => absurd h100 (nI_ge (a := j) (b := 43) (by omega) (by decide))) (fun h100 => ?_)
          refine J_aload C iX7_scanWord_103 rfl ?_
          refine J_iload C iX7_scanWord_105 rfl ?_
          refine J_aaldKINDS C iX7_scanWord_107 (vp_in_nI (n := j) (by omega) (by decide)) ?_
          rw [nI_clamp (n := j) (by omega)]
          refine J_astore [(8, .ref (zad Z j)), (7, .int (nI j)), (6, .int 43), (5, .ref (zms Z 0)), (4, .int (nI (s + wdL m tb s))), (2, .long (wVal m tb s (wdL m tb s))), (1, .int (nI s)), (0, .ref (kk 0))] C iX7_scanWord_108 (by decide) rfl ?_
          refine J_aload C iX7_scanWord_110 rfl ?_
          refine J_getKw C iX7_scanWord_112 (by omega) kw_X7_83 ?_
          refine J_lload_n C iX7_scanWord_115 rfl rfl ?_
          refine J_lcmp C iX7_scanWord_116 ?_
          refine J_ifneL 131 C iX7_scanWord_117 rfl (fun h117 => ?_) (fun h117 => ?_)
          · refine J_iinc ((nI j) + 1) [(7, .int ((nI j) + 1)), (8, .ref (zad Z j)), (6, .int 43), (5, .ref (zms Z 0)), (4, .int (nI (s + wdL m tb s))), (2, .long (wVal m tb s (wdL m tb s))), (1, .int (nI s)), (0, .ref (kk 0))] C iX7_scanWord_131 rfl rfl (by decide) rfl ?_
            rw [show (nI j) + 1 = nI (j + 1) from nI_add _ _]
            refine J_goto 96 C iX7_scanWord_134 rfl ?_
            refine J_lvm [(7, .int (nI (j + 1))), (6, .int 43), (5, .ref (zms Z 0)), (4, .int (nI (s + wdL m tb s))), (2, .long (wVal m tb s (wdL m tb s))), (1, .int (nI s)), (0, .ref (kk 0))] rfl ?_
            exact ihj (lt_s hI h117)
          · refine J_aload_n C iX7_scanWord_120 rfl rfl ?_
            refine J_aload C iX7_scanWord_121 rfl ?_
            refine J_iload_n C iX7_scanWord_123 rfl rfl ?_
            refine J_lconst 0 C iX7_scanWord_124 rfl ?_
            refine J_iload C iX7_scanWord_125 rfl ?_
            refine J_cV (As := [.ref (zad Z j), .int (nI s), .long 0, .int (nI (s + wdL m tb s))]) (st := []) (rc2 := (rmK 1).cells) (rs2 := (rmK 1).slots) C iX7_scanWord_127 lm_X7_52 yc_X7_put yv_X7_put (c_X7_put (c := c) (κ := j) (by omega) (by omega)) (q0 := 0) rfl rfl rfl rfl ⟨by decide, by decide⟩ (Nat.le_of_ble_eq_true rfl) rfl rfl ?_
            rintro _ _ ⟨rfl, rfl⟩
            refine J_st (.int (nI (s + wdL m tb s)) :: []) rfl ?_
            exact J_iret C E iX7_scanWord_130 ⟨by rw [wdN, if_pos hs69], by rw [wdK, wdV, if_pos hs69, if_pos hs69, kwO_some hj h117 hI]; rfl⟩
      · refine J_icmple 83 C iX7_scanWord_69 rfl (fun h69 => absurd h69 (nI_ge (a := 10) (b := (wdL m tb s)) (by omega) (by omega))) (fun h69 => ?_)
        refine J_aload_n C iX7_scanWord_72 rfl rfl ?_
        refine J_getsK C iX7_scanWord_73 kf_X7_56 ?_
        refine J_iload_n C iX7_scanWord_76 rfl rfl ?_
        refine J_lconst 0 C iX7_scanWord_77 rfl ?_
        refine J_iconst (-1) C iX7_scanWord_78 rfl ?_
        refine J_cV (As := [.ref (zad Z 42), .int (nI s), .long 0, .int (-1)]) (st := []) (rc2 := (rmK 1).cells) (rs2 := (rmK 1).slots) C iX7_scanWord_79 lm_X7_52 yc_X7_put yv_X7_put (c_X7_put (c := c) (κ := 42) (by omega) (by decide)) (q0 := 0) rfl rfl rfl rfl ⟨by decide, by decide⟩ (Nat.le_of_ble_eq_true rfl) rfl rfl ?_
        rintro _ _ ⟨rfl, rfl⟩
        refine J_st (.int (-1) :: []) rfl ?_
        exact J_iret C E iX7_scanWord_82 ⟨by rw [wdN, if_neg hs69], by rw [wdK, wdV, if_neg hs69, if_neg hs69]⟩
  · refine J_iload C iX7_scanWord_5 rfl ?_
    refine J_sipush 2000 C iX7_scanWord_7 rfl ?_
    refine J_icmpge 63 C iX7_scanWord_10 rfl (fun h10 => absurd h10 (nI_ge (a := s + k) (b := 2000) (by omega) (by decide))) (fun h10 => ?_)
    refine J_aload_n C iX7_scanWord_13 rfl rfl ?_
    refine J_get (.ref (t 0)) 0 C iX7_scanWord_14 gf_X7_25 rfl rfl ?_
    refine J_iload C iX7_scanWord_17 rfl ?_
    refine J_cVb (As := [.int (nI (s + k))]) (st := []) (rc2 := (rmK 1).cells) (rs2 := (rmK 1).slots) C iX7_scanWord_19 lm_X7_49 yc_X6_signAt yv_X6_signAt c_X6_signAt (q0 := 0) rfl rfl rfl (wTk Z kk t (nI c) kf sf vf) [] rfl rfl ⟨by decide, by decide⟩ (Nat.le_of_ble_eq_true rfl) rfl rfl ?_
    rintro _ _ ⟨rfl, rfl⟩
    refine J_st (.int (sgN m tb (s + k)) :: []) rfl ?_
    refine J_ws (wTk Z kk t (nI c) kf sf vf ++ wTp Z t (nI m) tb) rfl ?_
    refine J_cSp (As := [.int (sgN m tb (s + k))]) (st := []) C iX7_scanWord_22 lm_X7_59 yc_X7_isLetter ys_X7_isLetter c_X7_isLetter rfl ⟨by decide, by decide⟩ (Nat.le_of_ble_eq_true rfl) ⟨rfl, rfl⟩ ?_
    rintro _ rfl
    refine J_st (.int (b2i (isLet (sgN m tb (s + k)))) :: []) rfl ?_
    refine J_ifneb 43 C iX7_scanWord_25 rfl (fun h25 => ?_) (fun h25 => ?_)
    · refine J_lload_n C iX7_scanWord_43 rfl rfl ?_
      refine J_aload_n C iX7_scanWord_44 rfl rfl ?_
      refine J_get (.ref (t 0)) 0 C iX7_scanWord_45 gf_X7_25 rfl rfl ?_
      refine J_iload C iX7_scanWord_48 rfl ?_
      refine J_cVb (As := [.int (nI (s + k))]) (st := .long (wVal m tb s k) :: []) (rc2 := (rmK 1).cells) (rs2 := (rmK 1).slots) C iX7_scanWord_50 lm_X7_49 yc_X6_signAt yv_X6_signAt c_X6_signAt (q0 := 0) rfl rfl rfl (wTk Z kk t (nI c) kf sf vf) [] rfl rfl ⟨by decide, by decide⟩ (Nat.le_of_ble_eq_true rfl) rfl rfl ?_
      rintro _ _ ⟨rfl, rfl⟩
      refine J_st (.int (sgN m tb (s + k)) :: .long (wVal m tb s k) :: []) rfl ?_
      refine J_ws (wTk Z kk t (nI c) kf sf vf ++ wTp Z t (nI m) tb) rfl ?_
      refine J_cSp (As := [.long (wVal m tb s k), .int (sgN m tb (s + k))]) (st := []) C iX7_scanWord_53 lm_X7_76 yc_X1_lengthened ys_X1_lengthened c_X1_lengthened rfl ⟨by decide, by decide⟩ (Nat.le_of_ble_eq_true rfl) ⟨rfl, rfl⟩ ?_
      rintro _ rfl
      refine J_st (.long (lnF (wVal m tb s k) (sgN m tb (s + k))) :: []) rfl ?_
      refine J_lstore_n [(2, .long (lnF (wVal m tb s k) (sgN m tb (s + k)))), (4, .int (nI (s + k))), (1, .int (nI s)), (0, .ref (kk 0))] C iX7_scanWord_56 rfl (by decide) rfl ?_
      refine J_iinc ((nI (s + k)) + 1) [(4, .int ((nI (s + k)) + 1)), (2, .long (lnF (wVal m tb s k) (sgN m tb (s + k)))), (1, .int (nI s)), (0, .ref (kk 0))] C iX7_scanWord_57 rfl rfl (by decide) rfl ?_
      rw [show (nI (s + k)) + 1 = nI ((s + k) + 1) from nI_add _ _]
      refine J_goto 5 C iX7_scanWord_60 rfl ?_
      refine J_lvm [(4, .int (nI ((s + k) + 1))), (2, .long (lnF (wVal m tb s k) (sgN m tb (s + k)))), (1, .int (nI s)), (0, .ref (kk 0))] rfl ?_
      exact ih
    · refine J_aload_n C iX7_scanWord_28 rfl rfl ?_
      refine J_get (.ref (t 0)) 0 C iX7_scanWord_29 gf_X7_25 rfl rfl ?_
      refine J_iload C iX7_scanWord_32 rfl ?_
      refine J_cVb (As := [.int (nI (s + k))]) (st := []) (rc2 := (rmK 1).cells) (rs2 := (rmK 1).slots) C iX7_scanWord_34 lm_X7_49 yc_X6_signAt yv_X6_signAt c_X6_signAt (q0 := 0) rfl rfl rfl (wTk Z kk t (nI c) kf sf vf) [] rfl rfl ⟨by decide, by decide⟩ (Nat.le_of_ble_eq_true rfl) rfl rfl ?_
      rintro _ _ ⟨rfl, rfl⟩
      refine J_st (.int (sgN m tb (s + k)) :: []) rfl ?_
      refine J_ws (wTk Z kk t (nI c) kf sf vf ++ wTp Z t (nI m) tb) rfl ?_
      refine J_cSp (As := [.int (sgN m tb (s + k))]) (st := []) C iX7_scanWord_37 lm_X7_66 yc_X7_isDigit ys_X7_isDigit c_X7_isDigit rfl ⟨by decide, by decide⟩ (Nat.le_of_ble_eq_true rfl) ⟨rfl, rfl⟩ ?_
      rintro _ rfl
      refine J_st (.int (b2i (isDig (sgN m tb (s + k)))) :: []) rfl ?_
      refine J_ifeqb 63 C iX7_scanWord_40 rfl (fun h40 => absurd (h40.symm.trans (or_t (runL_in (q := (fun p => isLet (sgN m tb p) || isDig (sgN m tb p))) hk) h25)) (by decide)) (fun h40 => ?_)
      refine J_lload_n C iX7_scanWord_43 rfl rfl ?_
      refine J_aload_n C iX7_scanWord_44 rfl rfl ?_
      refine J_get (.ref (t 0)) 0 C iX7_scanWord_45 gf_X7_25 rfl rfl ?_
      refine J_iload C iX7_scanWord_48 rfl ?_
      refine J_cVb (As := [.int (nI (s + k))]) (st := .long (wVal m tb s k) :: []) (rc2 := (rmK 1).cells) (rs2 := (rmK 1).slots) C iX7_scanWord_50 lm_X7_49 yc_X6_signAt yv_X6_signAt c_X6_signAt (q0 := 0) rfl rfl rfl (wTk Z kk t (nI c) kf sf vf) [] rfl rfl ⟨by decide, by decide⟩ (Nat.le_of_ble_eq_true rfl) rfl rfl ?_
      rintro _ _ ⟨rfl, rfl⟩
      refine J_st (.int (sgN m tb (s + k)) :: .long (wVal m tb s k) :: []) rfl ?_
      refine J_ws (wTk Z kk t (nI c) kf sf vf ++ wTp Z t (nI m) tb) rfl ?_
      refine J_cSp (As := [.long (wVal m tb s k), .int (sgN m tb (s + k))]) (st := []) C iX7_scanWord_53 lm_X7_76 yc_X1_lengthened ys_X1_lengthened c_X1_lengthened rfl ⟨by decide, by decide⟩ (Nat.le_of_ble_eq_true rfl) ⟨rfl, rfl⟩ ?_
      rintro _ rfl
      refine J_st (.long (lnF (wVal m tb s k) (sgN m tb (s + k))) :: []) rfl ?_
      refine J_lstore_n [(2, .long (lnF (wVal m tb s k) (sgN m tb (s + k)))), (4, .int (nI (s + k))), (1, .int (nI s)), (0, .ref (kk 0))] C iX7_scanWord_56 rfl (by decide) rfl ?_
      refine J_iinc ((nI (s + k)) + 1) [(4, .int ((nI (s + k)) + 1)), (2, .long (lnF (wVal m tb s k) (sgN m tb (s + k)))), (1, .int (nI s)), (0, .ref (kk 0))] C iX7_scanWord_57 rfl rfl (by decide) rfl ?_
      rw [show (nI (s + k)) + 1 = nI ((s + k) + 1) from nI_add _ _]
      refine J_goto 5 C iX7_scanWord_60 rfl ?_
      refine J_lvm [(4, .int (nI ((s + k) + 1))), (2, .long (lnF (wVal m tb s k) (sgN m tb (s + k)))), (1, .int (nI s)), (0, .ref (kk 0))] rfl ?_
      exact ih

set_option maxRecDepth 100000 in
set_option maxHeartbeats 4000000 in
theorem c_X7_scanNumber {Z : GZ} {l : Launch} {kk t : Nat → Nat} {m : Nat} {tb : Nat → Int32} {kf : Nat → Option Nat} {sf : Nat → Int32} {vf : Nat → Int64} {c s : Nat} (hc0 : c ≤ 400) (hs0 : s ≤ 2000)  : Ct Z l yX7_scanNumber cX7_scanNumber 5 (some .int) (rmK 1) [.ref (kk 0), .int (nI s)] (wTk Z kk t (nI c) kf sf vf ++ wTp Z t (nI m) tb) (fun v w => v = some (.int (nmN m tb s)) ∧ w = (wTk Z kk t (nI (c + 1)) (va_up kf c (some (zad Z (nmK m tb s)))) (upd sf c (nI s)) (vp_updL vf c (nmV m tb s)) ++ wTp Z t (nI m) tb)) := by
  refine Ct.ofJ (own := RX7) (nm := "scanNumber") (lv0 := [(0, .ref (kk 0)), (1, .int (nI s))]) (by decide) rfl rfl (Nat.le_of_ble_eq_true rfl) rfl (fun X hXl C E => ?_)
  subst hXl
  have hnl : s + nmL m tb s ≤ 2000 := by
    have := runL_le (q := (fun p => isDig (sgN m tb p))) (s := s) (f := 2000 - s)
    simp only [nmL]
    omega
  refine J_lconst 0 C iX7_scanNumber_0 rfl ?_
  refine J_lstore_n [(2, .long 0), (0, .ref (kk 0)), (1, .int (nI s))] C iX7_scanNumber_1 rfl (by decide) rfl ?_
  refine J_iload_n C iX7_scanNumber_2 rfl rfl ?_
  refine J_istore [(4, .int (nI s)), (2, .long 0), (0, .ref (kk 0)), (1, .int (nI s))] C iX7_scanNumber_3 (by decide) rfl ?_
  refine J_lvm [(4, .int (nI s)), (2, .long (nVal m tb s 0)), (1, .int (nI s)), (0, .ref (kk 0))] rfl ?_
  refine J_for (fun k => [(4, .int (nI (s + k))), (2, .long (nVal m tb s k)), (1, .int (nI s)), (0, .ref (kk 0))]) (fun k => (wTk Z kk t (nI c) kf sf vf ++ wTp Z t (nI m) tb)) (nmL m tb s) 0 (by omega) ?_ (fun k hk0 hk ih => ?_)
  · by_cases hs : s + nmL m tb s = 2000
    · refine J_iload C iX7_scanNumber_5 rfl ?_
      refine J_sipush 2000 C iX7_scanNumber_7 rfl ?_
      refine J_icmpge 54 C iX7_scanNumber_10 rfl (fun h10 => ?_) (fun h10 => absurd (by rw [hs]; exact Int32.le_refl _) h10)
      refine J_iload C iX7_scanNumber_54 rfl ?_
      refine J_iload_n C iX7_scanNumber_56 rfl rfl ?_
      refine J_isub C iX7_scanNumber_57 ?_
      rw [show (nI (s + (nmL m tb s))) - (nI s) = nI (nmL m tb s) from sub_nI _ _]
      refine J_bipush 6 C iX7_scanNumber_58 rfl ?_
      by_cases hs60 : (nmL m tb s) ≤ 6
      · refine J_icmple 74 C iX7_scanNumber_60 rfl (fun h60 => ?_) (fun h60 => absurd (nI_le (a := (nmL m tb s)) (b := 6) (by omega) (by omega)) h60)
        refine J_aload_n C iX7_scanNumber_74 rfl rfl ?_
        refine J_getsK C iX7_scanNumber_75 kf_X7_92 ?_
        refine J_iload_n C iX7_scanNumber_78 rfl rfl ?_
        refine J_lload_n C iX7_scanNumber_79 rfl rfl ?_
        refine J_iload C iX7_scanNumber_80 rfl ?_
        refine J_cV (As := [.ref (zad Z 40), .int (nI s), .long (nVal m tb s (nmL m tb s)), .int (nI (s + (nmL m tb s)))]) (st := []) (rc2 := (rmK 1).cells) (rs2 := (rmK 1).slots) C iX7_scanNumber_82 lm_X7_52 yc_X7_put yv_X7_put (c_X7_put (c := c) (κ := 40) (by omega) (by decide)) (q0 := 0) rfl rfl rfl rfl ⟨by decide, by decide⟩ (Nat.le_of_ble_eq_true rfl) rfl rfl ?_
        rintro _ _ ⟨rfl, rfl⟩
        refine J_st (.int (nI (s + (nmL m tb s))) :: []) rfl ?_
        exact J_iret C E iX7_scanNumber_85 ⟨by rw [nmN, if_pos hs60], by rw [nmK, nmV, if_pos hs60, if_pos hs60]⟩
      · refine J_icmple 74 C iX7_scanNumber_60 rfl (fun h60 => absurd h60 (nI_ge (a := 6) (b := (nmL m tb s)) (by omega) (by omega))) (fun h60 => ?_)
        refine J_aload_n C iX7_scanNumber_63 rfl rfl ?_
        refine J_getsK C iX7_scanNumber_64 kf_X7_56 ?_
        refine J_iload_n C iX7_scanNumber_67 rfl rfl ?_
        refine J_lconst 0 C iX7_scanNumber_68 rfl ?_
        refine J_iconst (-1) C iX7_scanNumber_69 rfl ?_
        refine J_cV (As := [.ref (zad Z 42), .int (nI s), .long 0, .int (-1)]) (st := []) (rc2 := (rmK 1).cells) (rs2 := (rmK 1).slots) C iX7_scanNumber_70 lm_X7_52 yc_X7_put yv_X7_put (c_X7_put (c := c) (κ := 42) (by omega) (by decide)) (q0 := 0) rfl rfl rfl rfl ⟨by decide, by decide⟩ (Nat.le_of_ble_eq_true rfl) rfl rfl ?_
        rintro _ _ ⟨rfl, rfl⟩
        refine J_st (.int (-1) :: []) rfl ?_
        exact J_iret C E iX7_scanNumber_73 ⟨by rw [nmN, if_neg hs60], by rw [nmK, nmV, if_neg hs60, if_neg hs60]⟩
    · refine J_iload C iX7_scanNumber_5 rfl ?_
      refine J_sipush 2000 C iX7_scanNumber_7 rfl ?_
      refine J_icmpge 54 C iX7_scanNumber_10 rfl (fun h10 => absurd h10 (nI_ge (a := s + nmL m tb s) (b := 2000) (by omega) (by decide))) (fun h10 => ?_)
      refine J_aload_n C iX7_scanNumber_13 rfl rfl ?_
      refine J_get (.ref (t 0)) 0 C iX7_scanNumber_14 gf_X7_25 rfl rfl ?_
      refine J_iload C iX7_scanNumber_17 rfl ?_
      refine J_cVb (As := [.int (nI (s + (nmL m tb s)))]) (st := []) (rc2 := (rmK 1).cells) (rs2 := (rmK 1).slots) C iX7_scanNumber_19 lm_X7_49 yc_X6_signAt yv_X6_signAt c_X6_signAt (q0 := 0) rfl rfl rfl (wTk Z kk t (nI c) kf sf vf) [] rfl rfl ⟨by decide, by decide⟩ (Nat.le_of_ble_eq_true rfl) rfl rfl ?_
      rintro _ _ ⟨rfl, rfl⟩
      refine J_st (.int (sgN m tb (s + (nmL m tb s))) :: []) rfl ?_
      refine J_ws (wTk Z kk t (nI c) kf sf vf ++ wTp Z t (nI m) tb) rfl ?_
      refine J_cSp (As := [.int (sgN m tb (s + (nmL m tb s)))]) (st := []) C iX7_scanNumber_22 lm_X7_66 yc_X7_isDigit ys_X7_isDigit c_X7_isDigit rfl ⟨by decide, by decide⟩ (Nat.le_of_ble_eq_true rfl) ⟨rfl, rfl⟩ ?_
      rintro _ rfl
      refine J_st (.int (b2i (isDig (sgN m tb (s + (nmL m tb s))))) :: []) rfl ?_
      refine J_ifeqb 54 C iX7_scanNumber_25 rfl (fun h25 => ?_) (fun h25 => absurd (h25.symm.trans (runL_end (q := (fun p => isDig (sgN m tb p))) (s := s) (f := 2000 - s) (by simp only [nmL] at hs hnl; omega))) (by decide))
      refine J_iload C iX7_scanNumber_54 rfl ?_
      refine J_iload_n C iX7_scanNumber_56 rfl rfl ?_
      refine J_isub C iX7_scanNumber_57 ?_
      rw [show (nI (s + (nmL m tb s))) - (nI s) = nI (nmL m tb s) from sub_nI _ _]
      refine J_bipush 6 C iX7_scanNumber_58 rfl ?_
      by_cases hs60 : (nmL m tb s) ≤ 6
      · refine J_icmple 74 C iX7_scanNumber_60 rfl (fun h60 => ?_) (fun h60 => absurd (nI_le (a := (nmL m tb s)) (b := 6) (by omega) (by omega)) h60)
        refine J_aload_n C iX7_scanNumber_74 rfl rfl ?_
        refine J_getsK C iX7_scanNumber_75 kf_X7_92 ?_
        refine J_iload_n C iX7_scanNumber_78 rfl rfl ?_
        refine J_lload_n C iX7_scanNumber_79 rfl rfl ?_
        refine J_iload C iX7_scanNumber_80 rfl ?_
        refine J_cV (As := [.ref (zad Z 40), .int (nI s), .long (nVal m tb s (nmL m tb s)), .int (nI (s + (nmL m tb s)))]) (st := []) (rc2 := (rmK 1).cells) (rs2 := (rmK 1).slots) C iX7_scanNumber_82 lm_X7_52 yc_X7_put yv_X7_put (c_X7_put (c := c) (κ := 40) (by omega) (by decide)) (q0 := 0) rfl rfl rfl rfl ⟨by decide, by decide⟩ (Nat.le_of_ble_eq_true rfl) rfl rfl ?_
        rintro _ _ ⟨rfl, rfl⟩
        refine J_st (.int (nI (s + (nmL m tb s))) :: []) rfl ?_
        exact J_iret C E iX7_scanNumber_85 ⟨by rw [nmN, if_pos hs60], by rw [nmK, nmV, if_pos hs60, if_pos hs60]⟩
      · refine J_icmple 74 C iX7_scanNumber_60 rfl (fun h60 => absurd h60 (nI_ge (a := 6) (b := (nmL m tb s)) (by omega) (by omega))) (fun h60 => ?_)
        refine J_aload_n C iX7_scanNumber_63 rfl rfl ?_
        refine J_getsK C iX7_scanNumber_64 kf_X7_56 ?_
        refine J_iload_n C iX7_scanNumber_67 rfl rfl ?_
        refine J_lconst 0 C iX7_scanNumber_68 rfl ?_
        refine J_iconst (-1) C iX7_scanNumber_69 rfl ?_
        refine J_cV (As := [.ref (zad Z 42), .int (nI s), .long 0, .int (-1)]) (st := []) (rc2 := (rmK 1).cells) (rs2 := (rmK 1).slots) C iX7_scanNumber_70 lm_X7_52 yc_X7_put yv_X7_put (c_X7_put (c := c) (κ := 42) (by omega) (by decide)) (q0 := 0) rfl rfl rfl rfl ⟨by decide, by decide⟩ (Nat.le_of_ble_eq_true rfl) rfl rfl ?_
        rintro _ _ ⟨rfl, rfl⟩
        refine J_st (.int (-1) :: []) rfl ?_
        exact J_iret C E iX7_scanNumber_73 ⟨by rw [nmN, if_neg hs60], by rw [nmK, nmV, if_neg hs60, if_neg hs60]⟩
  · refine J_iload C iX7_scanNumber_5 rfl ?_
    refine J_sipush 2000 C iX7_scanNumber_7 rfl ?_
    refine J_icmpge 54 C iX7_scanNumber_10 rfl (fun h10 => absurd h10 (nI_ge (a := s + k) (b := 2000) (by omega) (by decide))) (fun h10 => ?_)
    refine J_aload_n C iX7_scanNumber_13 rfl rfl ?_
    refine J_get (.ref (t 0)) 0 C iX7_scanNumber_14 gf_X7_25 rfl rfl ?_
    refine J_iload C iX7_scanNumber_17 rfl ?_
    refine J_cVb (As := [.int (nI (s + k))]) (st := []) (rc2 := (rmK 1).cells) (rs2 := (rmK 1).slots) C iX7_scanNumber_19 lm_X7_49 yc_X6_signAt yv_X6_signAt c_X6_signAt (q0 := 0) rfl rfl rfl (wTk Z kk t (nI c) kf sf vf) [] rfl rfl ⟨by decide, by decide⟩ (Nat.le_of_ble_eq_true rfl) rfl rfl ?_
    rintro _ _ ⟨rfl, rfl⟩
    refine J_st (.int (sgN m tb (s + k)) :: []) rfl ?_
    refine J_ws (wTk Z kk t (nI c) kf sf vf ++ wTp Z t (nI m) tb) rfl ?_
    refine J_cSp (As := [.int (sgN m tb (s + k))]) (st := []) C iX7_scanNumber_22 lm_X7_66 yc_X7_isDigit ys_X7_isDigit c_X7_isDigit rfl ⟨by decide, by decide⟩ (Nat.le_of_ble_eq_true rfl) ⟨rfl, rfl⟩ ?_
    rintro _ rfl
    refine J_st (.int (b2i (isDig (sgN m tb (s + k)))) :: []) rfl ?_
    refine J_ifeqb 54 C iX7_scanNumber_25 rfl (fun h25 => absurd (h25.symm.trans (runL_in (q := (fun p => isDig (sgN m tb p))) hk)) (by decide)) (fun h25 => ?_)
    refine J_lload_n C iX7_scanNumber_28 rfl rfl ?_
    refine J_ldc2 10 C iX7_scanNumber_29 (tsg_in (i := 944) (by decide +kernel) rfl) ?_
    refine J_lmul C iX7_scanNumber_32 ?_
    refine J_aload_n C iX7_scanNumber_33 rfl rfl ?_
    refine J_get (.ref (t 0)) 0 C iX7_scanNumber_34 gf_X7_25 rfl rfl ?_
    refine J_iload C iX7_scanNumber_37 rfl ?_
    refine J_cVb (As := [.int (nI (s + k))]) (st := .long ((nVal m tb s k) * 10) :: []) (rc2 := (rmK 1).cells) (rs2 := (rmK 1).slots) C iX7_scanNumber_39 lm_X7_49 yc_X6_signAt yv_X6_signAt c_X6_signAt (q0 := 0) rfl rfl rfl (wTk Z kk t (nI c) kf sf vf) [] rfl rfl ⟨by decide, by decide⟩ (Nat.le_of_ble_eq_true rfl) rfl rfl ?_
    rintro _ _ ⟨rfl, rfl⟩
    refine J_st (.int (sgN m tb (s + k)) :: .long ((nVal m tb s k) * 10) :: []) rfl ?_
    refine J_ws (wTk Z kk t (nI c) kf sf vf ++ wTp Z t (nI m) tb) rfl ?_
    refine J_bipush 48 C iX7_scanNumber_42 rfl ?_
    refine J_isub C iX7_scanNumber_44 ?_
    refine J_i2l C iX7_scanNumber_45 ?_
    refine J_ladd C iX7_scanNumber_46 ?_
    refine J_lstore_n [(2, .long (((nVal m tb s k) * 10) + (((sgN m tb (s + k)) - 48).toInt64))), (4, .int (nI (s + k))), (1, .int (nI s)), (0, .ref (kk 0))] C iX7_scanNumber_47 rfl (by decide) rfl ?_
    refine J_iinc ((nI (s + k)) + 1) [(4, .int ((nI (s + k)) + 1)), (2, .long (((nVal m tb s k) * 10) + (((sgN m tb (s + k)) - 48).toInt64))), (1, .int (nI s)), (0, .ref (kk 0))] C iX7_scanNumber_48 rfl rfl (by decide) rfl ?_
    rw [show (nI (s + k)) + 1 = nI ((s + k) + 1) from nI_add _ _]
    refine J_goto 5 C iX7_scanNumber_51 rfl ?_
    refine J_lvm [(4, .int (nI ((s + k) + 1))), (2, .long (((nVal m tb s k) * 10) + (((sgN m tb (s + k)) - 48).toInt64))), (1, .int (nI s)), (0, .ref (kk 0))] rfl ?_
    exact ih

theorem sg_lt {m : Nat} {tb : Nat → Int32} {s : Nat} (hs : s ≤ 2000) (h : ¬ sgN m tb s = -1) : s < 2000 := by
  rcases Nat.lt_or_ge s 2000 with q | q
  · exact q
  · exfalso
    have e : s = 2000 := by omega
    subst e
    apply h
    unfold sgN sgF
    rw [if_pos (Or.inr (Or.inr (by decide)))]
set_option maxRecDepth 100000 in
set_option maxHeartbeats 4000000 in
theorem c_X7_scanToken {Z : GZ} {l : Launch} {kk t : Nat → Nat} {m : Nat} {tb : Nat → Int32} {kf : Nat → Option Nat} {sf : Nat → Int32} {vf : Nat → Int64} {c s : Nat} (hc0 : c ≤ 400) (hs0 : s ≤ 2000)  : Ct Z l yX7_scanToken cX7_scanToken 3 (some .int) (rmK 2) [.ref (kk 0), .int (nI s)] (wTk Z kk t (nI c) kf sf vf ++ wTp Z t (nI m) tb) (fun v w => v = some (.int (tkN m tb c s)) ∧ w = (wTk Z kk t (nI (c + 1)) (va_up kf c (some (zad Z (tkK m tb c s)))) (upd sf c (nI s)) (vp_updL vf c (tkV m tb c s)) ++ wTp Z t (nI m) tb)) := by
  refine Ct.ofJ (own := RX7) (nm := "scanToken") (lv0 := [(0, .ref (kk 0)), (1, .int (nI s))]) (by decide) rfl rfl (Nat.le_of_ble_eq_true rfl) rfl (fun X hXl C E => ?_)
  subst hXl
  refine J_aload_n C iX7_scanToken_0 rfl rfl ?_
  refine J_get (.ref (t 0)) 0 C iX7_scanToken_1 gf_X7_25 rfl rfl ?_
  refine J_iload_n C iX7_scanToken_4 rfl rfl ?_
  refine J_cVb (As := [.int (nI s)]) (st := []) (rc2 := (rmK 2).cells) (rs2 := (rmK 2).slots) C iX7_scanToken_5 lm_X7_49 yc_X6_signAt yv_X6_signAt c_X6_signAt (q0 := 0) rfl rfl rfl (wTk Z kk t (nI c) kf sf vf) [] rfl rfl ⟨by decide, by decide⟩ (Nat.le_of_ble_eq_true rfl) rfl rfl ?_
  rintro _ _ ⟨rfl, rfl⟩
  refine J_st (.int (sgN m tb s) :: []) rfl ?_
  refine J_ws (wTk Z kk t (nI c) kf sf vf ++ wTp Z t (nI m) tb) rfl ?_
  refine J_istore_n [(2, .int (sgN m tb s)), (0, .ref (kk 0)), (1, .int (nI s))] C iX7_scanToken_8 rfl (by decide) rfl ?_
  refine J_iload_n C iX7_scanToken_9 rfl rfl ?_
  refine J_iconst (-1) C iX7_scanToken_10 rfl ?_
  refine J_icmpne 25 C iX7_scanToken_11 rfl (fun h11 => ?_) (fun h11 => ?_)
  · refine J_aload_n C iX7_scanToken_25 rfl rfl ?_
    refine J_get (.int (nI c)) 0 C iX7_scanToken_26 gf_X7_29 rfl rfl ?_
    refine J_sipush 400 C iX7_scanToken_29 rfl ?_
    by_cases hs32 : c = 400
    · refine J_icmpne 46 C iX7_scanToken_32 rfl (fun h32 => absurd (show nI c = 400 from congrArg nI hs32) h32) (fun h32 => ?_)
      refine J_aload_n C iX7_scanToken_35 rfl rfl ?_
      refine J_getsK C iX7_scanToken_36 kf_X7_56 ?_
      refine J_iload_n C iX7_scanToken_39 rfl rfl ?_
      refine J_lconst 0 C iX7_scanToken_40 rfl ?_
      refine J_iconst (-1) C iX7_scanToken_41 rfl ?_
      refine J_cV (As := [.ref (zad Z 42), .int (nI s), .long 0, .int (-1)]) (st := []) (rc2 := (rmK 2).cells) (rs2 := (rmK 2).slots) C iX7_scanToken_42 lm_X7_52 yc_X7_put yv_X7_put (c_X7_put (c := c) (κ := 42) (by omega) (by decide)) (q0 := 0) rfl rfl rfl rfl ⟨by decide, by decide⟩ (Nat.le_of_ble_eq_true rfl) rfl rfl ?_
      rintro _ _ ⟨rfl, rfl⟩
      refine J_st (.int (-1) :: []) rfl ?_
      exact J_iret C E iX7_scanToken_45 ⟨by simp [tkN, h11, hs32, h32], by simp [tkK, tkV, h11, hs32, h32]⟩
    · refine J_icmpne 46 C iX7_scanToken_32 rfl (fun h32 => ?_) (fun h32 => absurd h32 (fun e => hs32 ((nI_eq (a := c) (b := 400) (by omega) (by omega)).mp e)))
      refine J_iload_n C iX7_scanToken_46 rfl rfl ?_
      refine J_cSp (As := [.int (sgN m tb s)]) (st := []) C iX7_scanToken_47 lm_X7_59 yc_X7_isLetter ys_X7_isLetter c_X7_isLetter rfl ⟨by decide, by decide⟩ (Nat.le_of_ble_eq_true rfl) ⟨rfl, rfl⟩ ?_
      rintro _ rfl
      refine J_st (.int (b2i (isLet (sgN m tb s))) :: []) rfl ?_
      refine J_ifeqb 59 C iX7_scanToken_50 rfl (fun h50 => ?_) (fun h50 => ?_)
      · refine J_iload_n C iX7_scanToken_59 rfl rfl ?_
        refine J_cSp (As := [.int (sgN m tb s)]) (st := []) C iX7_scanToken_60 lm_X7_66 yc_X7_isDigit ys_X7_isDigit c_X7_isDigit rfl ⟨by decide, by decide⟩ (Nat.le_of_ble_eq_true rfl) ⟨rfl, rfl⟩ ?_
        rintro _ rfl
        refine J_st (.int (b2i (isDig (sgN m tb s))) :: []) rfl ?_
        refine J_ifeqb 72 C iX7_scanToken_63 rfl (fun h63 => ?_) (fun h63 => ?_)
        · obtain ⟨d, hd2, hd3⟩ := (sg_rng m tb s).resolve_left h11
          have hs1 : s < 2000 := sg_lt hs0 h11
          refine J_aload_n C iX7_scanToken_72 rfl rfl ?_
          refine J_iload_n C iX7_scanToken_73 rfl rfl ?_
          refine J_iload_n C iX7_scanToken_74 rfl rfl ?_
          rw [hd3]
          refine J_cV (As := [.int (nI s), .int (nI d)]) (st := []) (rc2 := (rmK 2).cells) (rs2 := (rmK 2).slots) C iX7_scanToken_75 lm_X7_72 yc_X7_scanSymbol yv_X7_scanSymbol (c_X7_scanSymbol (d := d) (by omega) hd2 (by omega)) (q0 := 0) rfl rfl rfl rfl ⟨by decide, by decide⟩ (Nat.le_of_ble_eq_true rfl) rfl rfl ?_
          rintro _ _ ⟨rfl, rfl⟩
          refine J_st (.int (syN (nI d) (sgN m tb (s + 1)) s) :: []) rfl ?_
          rw [← hd3]
          exact J_iret C E iX7_scanToken_78 ⟨by simp [tkN, h11, hs32, h32, h50, h63], by simp [tkK, tkV, h11, hs32, h32, h50, h63]⟩
        · refine J_aload_n C iX7_scanToken_66 rfl rfl ?_
          refine J_iload_n C iX7_scanToken_67 rfl rfl ?_
          refine J_cV (As := [.int (nI s)]) (st := []) (rc2 := (rmK 2).cells) (rs2 := (rmK 2).slots) C iX7_scanToken_68 lm_X7_69 yc_X7_scanNumber yv_X7_scanNumber (c_X7_scanNumber (by omega) (by omega)) (q0 := 0) rfl rfl rfl rfl ⟨by decide, by decide⟩ (Nat.le_of_ble_eq_true rfl) rfl rfl ?_
          rintro _ _ ⟨rfl, rfl⟩
          refine J_st (.int (nmN m tb s) :: []) rfl ?_
          exact J_iret C E iX7_scanToken_71 ⟨by simp [tkN, h11, hs32, h32, h50, h63], by simp [tkK, tkV, h11, hs32, h32, h50, h63]⟩
      · refine J_aload_n C iX7_scanToken_53 rfl rfl ?_
        refine J_iload_n C iX7_scanToken_54 rfl rfl ?_
        refine J_cV (As := [.int (nI s)]) (st := []) (rc2 := (rmK 2).cells) (rs2 := (rmK 2).slots) C iX7_scanToken_55 lm_X7_63 yc_X7_scanWord yv_X7_scanWord (c_X7_scanWord (by omega) (by omega)) (q0 := 0) rfl rfl rfl rfl ⟨by decide, by decide⟩ (Nat.le_of_ble_eq_true rfl) rfl rfl ?_
        rintro _ _ ⟨rfl, rfl⟩
        refine J_st (.int (wdN m tb s) :: []) rfl ?_
        exact J_iret C E iX7_scanToken_58 ⟨by simp [tkN, h11, hs32, h32, h50], by simp [tkK, tkV, h11, hs32, h32, h50]⟩
  · refine J_aload_n C iX7_scanToken_14 rfl rfl ?_
    refine J_getsK C iX7_scanToken_15 kf_X7_40 ?_
    refine J_iload_n C iX7_scanToken_18 rfl rfl ?_
    refine J_lconst 0 C iX7_scanToken_19 rfl ?_
    refine J_iconst (-1) C iX7_scanToken_20 rfl ?_
    refine J_cV (As := [.ref (zad Z 41), .int (nI s), .long 0, .int (-1)]) (st := []) (rc2 := (rmK 2).cells) (rs2 := (rmK 2).slots) C iX7_scanToken_21 lm_X7_52 yc_X7_put yv_X7_put (c_X7_put (c := c) (κ := 41) (by omega) (by decide)) (q0 := 0) rfl rfl rfl rfl ⟨by decide, by decide⟩ (Nat.le_of_ble_eq_true rfl) rfl rfl ?_
    rintro _ _ ⟨rfl, rfl⟩
    refine J_st (.int (-1) :: []) rfl ?_
    exact J_iret C E iX7_scanToken_24 ⟨by simp [tkN, h11], by simp [tkK, tkV, h11]⟩

