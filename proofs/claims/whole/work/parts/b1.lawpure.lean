/-- a street's numbers -/
def SgOk (N u tm : Nat) (pP pF pT : Nat → Int32) (hh c0 c1 c2 c3 : Nat → Nat) : Prop := N ≤ 12 ∧ u ≤ 16 ∧ tm ≤ 2000 ∧ Pok N pP ∧ FTok N pF pT ∧ ∀ k, k < u → hh k < N ∧ c0 k ≤ 400 ∧ c1 k ≤ 400 ∧ c2 k ≤ 400 ∧ c3 k ≤ 400
/-- the registry at x is of these numbers -/
def CI (Z : GZ) (x : Nat → Nat) (N u tm : Nat) (er dg co : Int32) (pP pH pF pT op f1 f2 l0 : Nat → Int32) (hh c0 c1 c2 c3 : Nat → Nat) (tb : Nat → Int32) (w : va_W) : Prop := SgOk N u tm pP pF pT hh c0 c1 c2 c3 ∧ ∃ (t b p h r a e kk L Ld : Nat → Nat) (nk : Nat) (li sk scd hcd lcd sc ct ti si fl fa nt dgt cot lit y0 y1 y2 y3 y4 y5 : Int32) (br : Bool) (ss pS pD pC bP bH l1 l2 l3 l4 l5 bPd bHd opd f1d f2d l0d l1d l2d l3d l4d l5d sf0 pPt pHt pFt pTt pSt pDt pCt : Nat → Int32) (nm nmd vf0 : Nat → Int64) (kf0 : Nat → Option Nat), w = ((((((((wRg Z x t b p h r a e er ++ wSt Z e nt dgt cot lit pPt pHt pFt pTt pSt pDt pCt) ++ wSt Z a (nI N) dg co li pP pH pF pT pS pD pC) ++ wRk Z r h sk ss) ++ wBk Z h L (nI N) (nI u) sc nm bP bH op f1 f2 l0 l1 l2 l3 l4 l5) ++ wBk Z b Ld hcd lcd scd nmd bPd bHd opd f1d f2d l0d l1d l2d l3d l4d l5d) ++ wPa Z p kk b ti si nk br fl fa y0 y1 y2 y3 y4 y5) ++ wTk Z kk t ct kf0 sf0 vf0) ++ wTp Z t (nI tm) tb) ∧ StOk N pP pH pF pT li pS pD pC ∧ ∀ k, k < u → l1 k = nI (hh k) ∧ hh k < N ∧ l2 k = nI (c0 k) ∧ l3 k = nI (c1 k) ∧ l4 k = nI (c2 k) ∧ l5 k = nI (c3 k) ∧ c0 k ≤ 400 ∧ c1 k ≤ 400 ∧ c2 k ≤ 400 ∧ c3 k ≤ 400
/-- the model at mo is of these numbers; th: what was thrown -/
def MI (Z : GZ) (mo : Nat → Nat) (th : Int32) (N u tm : Nat) (er dg co : Int32) (pP pH pF pT op f1 f2 l0 : Nat → Int32) (hh c0 c1 c2 c3 : Nat → Nat) (tb : Nat → Int32) (w : va_W) : Prop := SgOk N u tm pP pF pT hh c0 c1 c2 c3 ∧ ∃ (pl : Nat → Nat) (tk dp lr mn : Int32) (kn : Bool) (hn va : Nat → Int64) (ha hg dz wh bg en od wi al tp kd fr me wo kh kf kl sh dk sk : Nat → Int32) (S : Nat), w = (wMd Z mo pl th (nI tm) er tk dp lr dg co kn tp kd fr me va wo pP pH pF pT kh kf kl sh dk sk ++ wPl Z pl (nI N) (nI u) mn hn ha hg dz wh bg en od wi al) ∧ (kn = true → LkOk N pP pH pF pT sh dk) ∧ S ≤ 400 ∧ (∀ r, r < S → RowS N (od r) (wi r) (al r) (op r) (f1 r) (f2 r)) ∧ (∀ k, k < u → LawN op dz bg en S k (l0 k) (c0 k) (c1 k) (c2 k) (c3 k) ∧ wh k = nI (hh k) ∧ hh k < N) ∧ ∀ p, p < tm → tp p = sgN tm tb p
theorem CI.head {Z : GZ} {x : Nat → Nat} {N u tm : Nat} {er dg co : Int32} {pP pH pF pT op f1 f2 l0 tb : Nat → Int32} {hh c0 c1 c2 c3 : Nat → Nat} {w : va_W} (h : CI Z x N u tm er dg co pP pH pF pT op f1 f2 l0 hh c0 c1 c2 c3 tb w) : ∃ fs, w[0]? = some (x 0, .inr (7, fs)) := by
  obtain ⟨-, _, _, _, _, _, _, _, _, _, _, _, _, _, _, _, _, _, _, _, _, _, _, _, _, _, _, _, _, _, _, _, _, _, _, _, _, _, _, _, _, _, _, _, _, _, _, _, _, _, _, _, _, _, _, _, _, _, _, _, _, _, _, _, _, _, _, _, rfl, -⟩ := h
  exact ⟨_, rfl⟩
theorem MI.head {Z : GZ} {mo : Nat → Nat} {th : Int32} {N u tm : Nat} {er dg co : Int32} {pP pH pF pT op f1 f2 l0 tb : Nat → Int32} {hh c0 c1 c2 c3 : Nat → Nat} {w : va_W} (h : MI Z mo th N u tm er dg co pP pH pF pT op f1 f2 l0 hh c0 c1 c2 c3 tb w) : ∃ fs, w[0]? = some (mo 0, .inr (9, fs)) := by
  obtain ⟨-, _, _, _, _, _, _, _, _, _, _, _, _, _, _, _, _, _, _, _, _, _, _, _, _, _, _, _, _, _, rfl, -⟩ := h
  exact ⟨_, rfl⟩
theorem stAt_cong {N : Nat} (hN : N ≤ 12) {q d : Int32} {f g : Nat → Int32} (h : ∀ i, i < N → f i = g i) : stAt (nI N) q f d = stAt (nI N) q g d := by
  by_cases c : hasB (nI N) q = true
  · rw [stAt, stAt, if_pos c, if_pos c, h _ (hasB_lt hN c)]
  · rw [stAt, stAt, if_neg c, if_neg c]
theorem shF_X {N : Nat} (hN : N ≤ 12) {q g : Int32} {S P H F T : Nat → Int32} (hS : ∀ i j, i < N → j < N → S (i * 12 + j) = shH P H F T i j) : shF (nI N) S q g = shX N P H F T q g := by
  by_cases c : hasB (nI N) q = true ∧ hasB (nI N) g = true
  · obtain ⟨i, hi, rfl⟩ := hasB_of hN c.1
    obtain ⟨j, hj, rfl⟩ := hasB_of hN c.2
    rw [shF, shX, if_pos c, if_pos c, show (12 : Int32) = nI 12 from rfl, pk_mul, nI_add, nI_clamp (by omega), nI_clamp (by omega), nI_clamp (by omega)]
    exact hS i j hi hj
  · rw [shF, shX, if_neg c, if_neg c]
theorem cntN_cong {f g : Nat → Bool} : ∀ {N : Nat}, (∀ i, i < N → f i = g i) → cntN f N = cntN g N
  | 0, _ => rfl
  | N + 1, h => by rw [cntN, cntN, cntN_cong (fun i hi => h i (by omega)), h N (by omega)]
theorem amx_cong {f g : Nat → Int32} : ∀ {N : Nat}, (∀ i, i < N → f i = g i) → amx f N = amx g N
  | 0, _ => rfl
  | N + 1, h => by
    have e := amx_cong (N := N) (fun i hi => h i (by omega))
    rw [amx, amx, e, h N (by omega)]
    rcases Nat.eq_zero_or_pos N with z | z
    · subst z; rw [show amx g 0 = 0 from rfl, h 0 (by omega)]
    · rw [h _ (by have := amx_lt' (f := g) z; omega)]
theorem ao_r {a b c : Int32} : (a ||| b) &&& c = (a &&& c) ||| (b &&& c) := Int32.toBitVec_inj.mp (by rw [Int32.toBitVec_and, Int32.toBitVec_or, Int32.toBitVec_or, Int32.toBitVec_and, Int32.toBitVec_and]; exact BitVec.and_or_distrib_right)
theorem and1 (y : Int32) : y &&& 1 = 0 ∨ y &&& 1 = 1 := by
  have e : (y &&& 1).toBitVec = BitVec.setWidth 32 (BitVec.ofBool (y.toBitVec.getLsbD 0)) := by
    rw [Int32.toBitVec_and]
    exact BitVec.and_one_eq_setWidth_ofBool_getLsbD
  cases c : y.toBitVec.getLsbD 0
  · left; apply Int32.toBitVec_inj.mp; rw [e, c]; rfl
  · right; apply Int32.toBitVec_inj.mp; rw [e, c]; rfl
theorem hh_1 {x h : Int32} : hhX x h = true ↔ (x >>> (h &&& 31)) &&& 1 = 1 := by
  rcases and1 (x >>> (h &&& 31)) with c | c
  · rw [hhX, c]; decide
  · rw [hhX, c]; decide
theorem hh_d (x h : Int32) : hhX x h = decide ((x >>> (h &&& 31)) &&& 1 = 1) := by
  by_cases c : (x >>> (h &&& 31)) &&& 1 = 1
  · rw [decide_eq_true c]; exact hh_1.mpr c
  · rw [decide_eq_false c]
    cases e : hhX x h
    · rfl
    · exact absurd (hh_1.mp e) c
theorem ab_d : ∀ p, p < 100 → ∀ q, q < 100 → absI (nI p - nI q) < 100 := by
  intro p hp q hq
  have key : ∀ d, d < 100 → absI (nI d) = nI d ∧ absI (-nI d) = nI d := by decide
  rcases Nat.le_total q p with h | h
  · rw [pk_sub h, (key (p - q) (by omega)).1]; exact nI_lt (a := p - q) (b := 100) (by omega) (by decide)
  · rw [← Int32.neg_sub, pk_sub h, (key (q - p) (by omega)).2]; exact nI_lt (a := q - p) (b := 100) (by omega) (by decide)
/-- how far the nearest one is -/
def sbA (P : Nat → Int32) (i : Nat) : Option Nat → Int32
  | none => 100
  | some t => absI (P t - P i)
theorem sb_all {N : Nat} {P H F T S : Nat → Int32} {i : Nat} {g : Int32} (hN : N ≤ 12) (hP : Pok N P) (hi : i < N) (hS : ∀ i j, i < N → j < N → S (i * 12 + j) = shH P H F T i j) : ∀ k, k ≤ N → sbX N P S (nI i) g k = (oN (sbM P (fun k => shH P H F T i k) i g k), sbA P i (sbM P (fun k => shH P H F T i k) i g k))
  | 0, _ => rfl
  | k + 1, hk => by
    have ih := sb_all (g := g) hN hP hi hS k (by omega)
    have e : shF (nI N) S (nI i) (nI k) = shH P H F T i k := by
      rw [shF_X hN hS, shX, if_pos ⟨hasB_nI hi hN, hasB_nI (by omega) hN⟩, nI_clamp (by omega), nI_clamp (by omega)]
    have e1 : stAt (nI N) (nI k) P (-1) = P k := stAt_nI (by omega) hN P (-1)
    have e2 : stAt (nI N) (nI i) P (-1) = P i := stAt_nI hi hN P (-1)
    have ea : (if 0 ≤ P k - P i then P k - P i else 0 - (P k - P i)) = absI (P k - P i) := rfl
    rw [sbX, sbM, e1, e2, e, ih, ea]
    dsimp only
    have e100 : absI (P k - P i) < 100 := by
      obtain ⟨p, p1, p2⟩ := hP k (by omega)
      obtain ⟨q, q1, q2⟩ := hP i hi
      rw [p2, q2]; exact ab_d p (by omega) q (by omega)
    have iff1 : (absI (P k - P i) < sbA P i (sbM P (fun k => shH P H F T i k) i g k) ∧ hhX (shH P H F T i k) g = true) ↔ ((shH P H F T i k >>> (g &&& 31)) &&& 1 = 1 ∧ ∀ t, sbM P (fun k => shH P H F T i k) i g k = some t → absI (P k - P i) < absI (P t - P i)) := by
      rw [hh_1]
      cases c : sbM P (fun k => shH P H F T i k) i g k with
      | none => exact ⟨fun z => ⟨z.2, fun t e => by cases e⟩, fun z => ⟨e100, z.1⟩⟩
      | some t => exact ⟨fun z => ⟨z.2, fun t' e => by cases e; exact z.1⟩, fun z => ⟨z.2 t rfl, z.1⟩⟩
    by_cases c : (shH P H F T i k >>> (g &&& 31)) &&& 1 = 1 ∧ ∀ t, sbM P (fun k => shH P H F T i k) i g k = some t → absI (P k - P i) < absI (P t - P i)
    · rw [if_pos (iff1.mpr c), if_pos c]; rfl
    · rw [if_neg (fun z => c (iff1.mp z)), if_neg c]
theorem sb_eq {N : Nat} {P H F T S : Nat → Int32} {i : Nat} {g : Int32} (hN : N ≤ 12) (hP : Pok N P) (hi : i < N) (hS : ∀ i j, i < N → j < N → S (i * 12 + j) = shH P H F T i j) : (sbX N P S (nI i) g N).1 = oN (sbM P (fun k => shH P H F T i k) i g N) := by
  rw [sb_all hN hP hi hS N (Nat.le_refl _)]
theorem sbM_cong {P lk lk2 : Nat → Int32} {i : Nat} {x : Int32} : ∀ {N : Nat}, (∀ k, k < N → lk k = lk2 k) → sbM P lk i x N = sbM P lk2 i x N
  | 0, _ => rfl
  | N + 1, h => by rw [sbM, sbM, sbM_cong (fun k hk => h k (by omega)), h N (by omega)]
/-- somebody shades at an hour: some one is found -/
theorem sbM_none {P lk : Nat → Int32} {i : Nat} {x : Int32} : ∀ {N : Nat}, sbM P lk i x N = none ↔ ∀ k, k < N → ¬ (lk k >>> (x &&& 31)) &&& 1 = 1
  | 0 => ⟨fun _ k h => absurd h (Nat.not_lt_zero _), fun _ => rfl⟩
  | N + 1 => by
    rw [sbM]
    have ih := sbM_none (P := P) (lk := lk) (i := i) (x := x) (N := N)
    constructor
    · intro h k hk
      by_cases c : (lk N >>> (x &&& 31)) &&& 1 = 1 ∧ ∀ t, sbM P lk i x N = some t → absI (P N - P i) < absI (P t - P i)
      · rw [if_pos c] at h; cases h
      · rw [if_neg c] at h
        rcases Nat.lt_or_ge k N with z | z
        · exact ih.mp h k z
        · have e : k = N := by omega
          subst e
          exact fun y => c ⟨y, fun t e => by rw [h] at e; cases e⟩
    · intro h
      rw [if_neg (fun c => h N (by omega) c.1)]
      exact ih.mpr (fun k hk => h k (by omega))
theorem or_bit {f : Nat → Int32} {x : Int32} : ∀ {N : Nat}, (orN f N >>> (x &&& 31)) &&& 1 = 1 ↔ ∃ k, k < N ∧ (f k >>> (x &&& 31)) &&& 1 = 1
  | 0 => by
    constructor
    · intro h
      exfalso
      rw [orN, Int32.zero_shiftRight] at h
      exact absurd h (by decide)
    · rintro ⟨k, hk, -⟩
      exact absurd hk (Nat.not_lt_zero _)
  | N + 1 => by
    have ih := or_bit (f := f) (x := x) (N := N)
    have e : (orN f (N + 1) >>> (x &&& 31)) &&& 1 = ((orN f N >>> (x &&& 31)) &&& 1) ||| ((f N >>> (x &&& 31)) &&& 1) := by
      rw [orN, Int32.shiftRight_or, ao_r]
    rw [e]
    constructor
    · intro h
      rcases and1 (f N >>> (x &&& 31)) with c | c
      · rw [c, Int32.or_zero] at h
        obtain ⟨k, k1, k2⟩ := ih.mp h
        exact ⟨k, by omega, k2⟩
      · exact ⟨N, by omega, c⟩
    · rintro ⟨k, k1, k2⟩
      rcases Nat.lt_or_ge k N with z | z
      · rw [ih.mpr ⟨k, z, k2⟩]
        rcases and1 (f N >>> (x &&& 31)) with c | c <;> rw [c] <;> decide
      · have e : k = N := by omega
        subst e
        rw [k2]
        rcases and1 (orN f k >>> (x &&& 31)) with c | c <;> rw [c] <;> decide
theorem cu_ne {fr to_ : Int32} (h : ¬ (fr < 6 ∨ 18 < to_ ∨ to_ < fr)) (e : fr = -1) : to_ = -1 := by
  subst e; exact absurd (Or.inl (by decide)) h
theorem in_nI {x : Int32} {m : Nat} (hm : m < 2147483648) (h : ¬ (x < 0 ∨ nI m < x)) : ∃ t, t ≤ m ∧ x = nI t := by
  have h1 : ¬ x < 0 := fun e => h (Or.inl e)
  have h2 : ¬ nI m < x := fun e => h (Or.inr e)
  have h3 := Int32.le_iff_toInt_le.mp (Int32.not_lt.mp h1)
  have h4 := Int32.le_iff_toInt_le.mp (Int32.not_lt.mp h2)
  have e0 : (0 : Int32).toInt = 0 := rfl
  rw [nI_toInt (by omega)] at h4
  refine ⟨x.toInt.toNat, by omega, Int32.toInt_inj.mp ?_⟩
  rw [nI_toInt (by omega)]; omega
theorem Pok.up {N : Nat} {P : Nat → Int32} {k : Nat} {x : Int32} (hP : Pok N P) (h : ¬ (x < 0 ∨ 99 < x)) : Pok N (upd P k x) := by
  intro i hi
  by_cases e : i = k
  · subst e; rw [upd_s]; exact in_nI (m := 99) (by decide) h
  · rw [upd_n e]; exact hP i hi
theorem carF_FT {N : Nat} {lf : Int32 → Int32 → Int32 → Int32} {o g j H F T : Nat → Int32} {od : Int32} {h c0 c1 c2 c3 : Nat} (hF : FTok N F T) : FTok N (carF lf o g j H F T od h c0 c1 c2 c3).2.2.1 (carF lf o g j H F T od h c0 c1 c2 c3).2.2.2 := by
  unfold carF
  split
  · exact hF
  · split
    · exact hF.up (fun _ => rfl)
    · split
      · exact hF
      · split
        · exact hF
        · exact hF.up (fun e => absurd e (hl_ne _))
theorem dayL_FT {N : Nat} {dg : Int32} {P o g j l0 : Nat → Int32} {hh c0 c1 c2 c3 : Nat → Nat} : ∀ (f i : Nat) {q : HFT × Int32}, FTok N q.1.2.1 q.1.2.2 → FTok N (dayL N dg P o g j l0 hh c0 c1 c2 c3 i f q).1.2.1 (dayL N dg P o g j l0 hh c0 c1 c2 c3 i f q).1.2.2
  | 0, _, _, h => h
  | f + 1, i, _, h => by
    rw [dayL]
    exact dayL_FT f (i + 1) (by rw [carS]; exact carF_FT h)
theorem dyN_FT0 {N : Nat} {P o g j l0 : Nat → Int32} {hh c0 c1 c2 c3 : Nat → Nat} {u : Nat} {q : DY} (h : FTok N q.1.2.1 q.1.2.2) : ∀ n, FTok N (dyN N P o g j l0 hh c0 c1 c2 c3 u q n).1.2.1 (dyN N P o g j l0 hh c0 c1 c2 c3 u q n).1.2.2
  | 0 => h
  | n + 1 => by
    rw [dyN, dyS]
    exact dayL_FT u 0 (dyN_FT0 h n)
theorem dyN_FT {N : Nat} {P o g j l0 H F T : Nat → Int32} {hh c0 c1 c2 c3 : Nat → Nat} {u : Nat} {co dg : Int32} (h : FTok N F T) (n : Nat) : FTok N (dyN N P o g j l0 hh c0 c1 c2 c3 u ((H, F, T), co, dg) n).1.2.1 (dyN N P o g j l0 hh c0 c1 c2 c3 u ((H, F, T), co, dg) n).1.2.2 := dyN_FT0 (q := ((H, F, T), co, dg)) h n
theorem la_nat {N : Nat} {P H F T : Nat → Int32} (hN : N ≤ 12) (hP : Pok N P) (hF : FTok N F T) : ∃ t, t ≤ 156 ∧ laG N P H F T = nI t := by
  rw [← al_eq hP hF]; exact al_nat hN
theorem sum_cnt {f : Nat → Int32} {g : Nat → Bool} : ∀ {N : Nat}, (∀ i, i < N → f i = b2i (g i)) → sumN f N = nI (cntN g N)
  | 0, _ => rfl
  | N + 1, h => by
    rw [sumN, cntN, sum_cnt (fun i hi => h i (by omega)), h N (by omega)]
    cases g N
    · exact Int32.add_zero _
    · exact nI_add _ 1
theorem in_cnt {N : Nat} {P H F T : Nat → Int32} {h : Int32} (hN : N ≤ 12) (hP : Pok N P) (hF : FTok N F T) : inM (dkM N P H F T) h N = nI (cntN (dkB N (dkG N P H F T) h) N) := by
  refine sum_cnt (fun i hi => ?_)
  rw [dkB, stAt_nI hi hN, hh_d, dk_eq hP hF hi]
  rcases and1 (dkG N P H F T i >>> (h &&& 31)) with c | c <;> rw [c] <;> rfl
theorem lt_cnt {N : Nat} {P H F T : Nat → Int32} (hN : N ≤ 12) (hP : Pok N P) (hF : FTok N F T) : sumN (fun a => b2i (decide (lsM N P H F T a = 0))) N = nI (cntN (ltB N (dkG N P H F T)) N) := by
  refine sum_cnt (fun i hi => ?_)
  rw [ltB, stAt_nI hi hN, ls_eq hP hF hi]
theorem dkB_c {N : Nat} {D E : Nat → Int32} {h : Int32} (hN : N ≤ 12) (hD : ∀ i, i < N → D i = E i) : cntN (dkB N D h) N = cntN (dkB N E h) N := cntN_cong (fun i _ => congrArg (fun z => hhX z h) (stAt_cong hN hD))
theorem ltB_c {N : Nat} {D E : Nat → Int32} (hN : N ≤ 12) (hD : ∀ i, i < N → D i = E i) : cntN (ltB N D) N = cntN (ltB N E) N := cntN_cong (fun i _ => congrArg (fun z => decide (bitC z = 0)) (stAt_cong hN hD))
theorem lsI_c {N : Nat} {D E : Nat → Int32} (hN : N ≤ 12) (hD : ∀ i, i < N → D i = E i) : amx (lsI N D) N = amx (lsI N E) N := amx_cong (fun i _ => congrArg bitC (stAt_cong hN hD))
theorem csI_c {N : Nat} {D E : Nat → Int32} (hN : N ≤ 12) (hD : ∀ i, i < N → D i = E i) : amx (csI N D) N = amx (csI N E) N := amx_cong (fun i _ => stAt_cong hN hD)
theorem dgI_eq {N h : Nat} {S P H F T : Nat → Int32} {d : Int64} (hN : N ≤ 12) (hP : Pok N P) (hF : FTok N F T) (hh : h < N) (hS : ∀ i j, i < N → j < N → S (i * 12 + j) = shH P H F T i j) : ∀ k, k ≤ N → dgI N S h d k = dgF (fun b => bitC (lkM P H F T h b)) d k
  | 0, _ => rfl
  | k + 1, hk => by
    rw [dgI, dgF, dgI_eq hN hP hF hh hS k (by omega), shF_X hN hS, shX, if_pos ⟨hasB_nI hh hN, hasB_nI (by omega) hN⟩, nI_clamp (by omega), nI_clamp (by omega), lk_eq hP hF hh (by omega)]
theorem dgO_eq {N : Nat} {P H F T S D E : Nat → Int32} {li : Int32} {d : Int64} (hN : N ≤ 12) (hP : Pok N P) (hF : FTok N F T) (hst : StOk N P H F T li S D E) : ∀ k, k ≤ N → dgO N P H F T S D E d k = dgMO P H F T (lsM N P H F T) (ctM N P H F T) (fun a b => bitC (lkM P H F T a b)) N d k
  | 0, _ => rfl
  | k + 1, hk => by
    have hk2 : k < N := by omega
    rw [dgO, dgMO, dgI_eq hN hP hF hk2 hst.1 N (Nat.le_refl _), dgO_eq hN hP hF hst k (by omega), dg6, dgM6, stAt_nI hk2 hN, stAt_nI hk2 hN, stAt_nI hk2 hN, stAt_nI hk2 hN, stAt_nI hk2 hN, stAt_nI hk2 hN, hst.2.1 k hk2, hst.2.2.1 k hk2, ls_eq hP hF hk2, ct_eq hP hF hk2]
theorem dgR_eq {N : Nat} {P H F T D : Nat → Int32} {d : Int64} (hN : N ≤ 12) (hP : Pok N P) (hF : FTok N F T) (hD : ∀ i, i < N → D i = dkG N P H F T i) : ∀ k, dgR N D d k = dgMR (fun h => inM (dkM N P H F T) h N) d k
  | 0 => rfl
  | k + 1 => by
    rw [dgR, dgMR, dgR_eq hN hP hF hD k, in_cnt hN hP hF, dkB_c hN hD]
theorem dg_eq {N u : Nat} {P H F T S D E : Nat → Int32} {li dg co : Int32} (hN : N ≤ 12) (hP : Pok N P) (hF : FTok N F T) (hst : StOk N P H F T li S D E) : dgR N D (dgO N P H F T S D E (dg0 N u dg co li (cntN (ltB N D) N)) N) 13 = dgMR (fun h => inM (dkM N P H F T) h N) (dgMO P H F T (lsM N P H F T) (ctM N P H F T) (fun a b => bitC (lkM P H F T a b)) N (dgA (dgA (dgA (dgA (dgA (dgA 1013 (nI N)) (nI u)) dg) co) (laG N P H F T)) (nI (cntN (ltB N (dkG N P H F T)) N))) N) 13 := by
  rw [dgR_eq hN hP hF hst.2.1, dgO_eq hN hP hF hst N (Nat.le_refl _), dg0, hst.2.2.2, ltB_c hN hst.2.1]

