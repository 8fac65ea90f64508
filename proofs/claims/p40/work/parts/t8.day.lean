/-! A day of the told laws. -/
theorem hl_if {y : Int64} {a b : Int32} (hab : a.toInt ≤ b.toInt) : hlF y a b = if y.toInt < a.toInt then a else if b.toInt < y.toInt then b else y.toInt32 := by
  have ea : a.toInt64.toInt = a.toInt := Int32.toInt_toInt64 a
  have eb : b.toInt64.toInt = b.toInt := Int32.toInt_toInt64 b
  unfold hlF
  by_cases c1 : y.toInt < a.toInt
  · have h1 : y < b.toInt64 := Int64.lt_iff_toInt_lt.mpr (by omega)
    have h2 : y < a.toInt64 := Int64.lt_iff_toInt_lt.mpr (by omega)
    rw [if_pos c1, if_pos h1, if_pos h2, Int32.toInt32_toInt64]
  · rw [if_neg c1]
    have h2 : ¬ y < a.toInt64 := fun q => c1 (by have := Int64.lt_iff_toInt_lt.mp q; omega)
    by_cases c2 : b.toInt < y.toInt
    · have h1 : ¬ y < b.toInt64 := fun q => by have := Int64.lt_iff_toInt_lt.mp q; omega
      have h3 : ¬ b.toInt64 < a.toInt64 := fun q => by have := Int64.lt_iff_toInt_lt.mp q; omega
      rw [if_pos c2, if_neg h1, if_neg h3, Int32.toInt32_toInt64]
    · rw [if_neg c2]
      by_cases h1 : y < b.toInt64
      · rw [if_pos h1, if_neg h2]
      · have h3 : ¬ b.toInt64 < a.toInt64 := fun q => by have := Int64.lt_iff_toInt_lt.mp q; omega
        have h4 : y = b.toInt64 := Int64.toInt_inj.mp (by
          have h5 : ¬ y.toInt < b.toInt64.toInt := fun q => h1 (Int64.lt_iff_toInt_lt.mpr q)
          omega)
        rw [if_neg h1, if_neg h3, h4]
theorem hl_cl (v : Int32) : hlF v.toInt64 6 18 = nI (clN v) := by
  have e6 : (6 : Int32).toInt = 6 := rfl
  have e18 : (18 : Int32).toInt = 18 := rfl
  rw [hl_if (by decide), Int32.toInt_toInt64, e6, e18, Int32.toInt32_toInt64]
  unfold clN
  by_cases c : v < 6
  · have h1 := Int32.lt_iff_toInt_lt.mp c
    rw [if_pos c, if_pos (by omega)]
    rfl
  · have h1 : ¬ v.toInt < 6 := fun q => c (Int32.lt_iff_toInt_lt.mpr (by omega))
    rw [if_neg c, if_neg h1]
    by_cases d : 18 < v
    · have h2 := Int32.lt_iff_toInt_lt.mp d
      rw [if_pos d, if_pos (by omega)]
      rfl
    · have h2 : ¬ 18 < v.toInt := fun q => d (Int32.lt_iff_toInt_lt.mpr (by omega))
      rw [if_neg d, if_neg h2]
      apply Int32.toInt_inj.mp
      rw [nI_toInt (by omega)]
      omega
theorem hl_ra {x : Nat} (hx : x ≤ 30) (v : Int32) : hlF ((nI x).toInt64 + v.toInt64) 0 30 = nI (raN x v) := by
  have e0 : (0 : Int32).toInt = 0 := rfl
  have e30 : (30 : Int32).toInt = 30 := rfl
  have b1 := Int32.le_toInt v
  have b2 := Int32.toInt_lt v
  have ey : ((nI x).toInt64 + v.toInt64).toInt = (x : Int) + v.toInt := by
    rw [Int64.toInt_add, Int32.toInt_toInt64, Int32.toInt_toInt64, nI_toInt (by omega)]
    exact Int.bmod_eq_of_le_mul_two (by omega) (by omega)
  have en : (-(nI x)).toInt = -(x : Int) := by
    rw [Int32.toInt_neg, nI_toInt (by omega)]
    exact Int.bmod_eq_of_le_mul_two (by omega) (by omega)
  have es : ((30 : Int32) - nI x).toInt = 30 - (x : Int) := by
    rw [Int32.toInt_sub, nI_toInt (by omega), e30]
    exact Int.bmod_eq_of_le_mul_two (by omega) (by omega)
  rw [hl_if (by decide), e0, e30, ey]
  unfold raN
  by_cases c : v < -(nI x)
  · have h1 := Int32.lt_iff_toInt_lt.mp c
    rw [if_pos c, if_pos (by omega)]
    rfl
  · have h1 : ¬ v.toInt < -(x : Int) := fun q => c (Int32.lt_iff_toInt_lt.mpr (by omega))
    rw [if_neg c, if_neg (by omega)]
    by_cases d : 30 - nI x < v
    · have h2 := Int32.lt_iff_toInt_lt.mp d
      rw [if_pos d, if_pos (by omega)]
      rfl
    · have h2 : ¬ 30 - (x : Int) < v.toInt := fun q => d (Int32.lt_iff_toInt_lt.mpr (by omega))
      rw [if_neg d, if_neg (by omega)]
      apply Int32.toInt_inj.mp
      rw [Int64.toInt_toInt32, ey, nI_toInt (by omega)]
      rw [Int.bmod_eq_of_le_mul_two (by omega) (by omega)]
      omega
theorem nI_lt2 {a b : Nat} (ha : a < 1000) (hb : b < 1000) : nI a < nI b ↔ a < b := by
  rw [Int32.lt_iff_toInt_lt, nI_toInt (by omega), nI_toInt (by omega)]
  omega
theorem chg_2 {A B C A' B' : Prop} [Decidable A'] [Decidable B'] [Decidable (C ∧ A ∧ B)] {ca : Int32} (hC : C) (h1 : A' ↔ A) (h2 : B' ↔ B) : (if (!(decide A' && decide B')) = true then ca + 1 else ca) = ca + (if C ∧ A ∧ B then 0 else 1) := by
  by_cases c : A' ∧ B'
  · rw [decide_eq_true c.1, decide_eq_true c.2, if_neg (by decide), if_pos ⟨hC, h1.mp c.1, h2.mp c.2⟩, Int32.add_zero]
  · have e : (decide A' && decide B') = false := by
      rw [Bool.and_eq_false_iff, decide_eq_false_iff_not, decide_eq_false_iff_not]
      by_cases a : A'
      · exact Or.inr (fun b => c ⟨a, b⟩)
      · exact Or.inl a
    rw [e, if_pos (by decide), if_neg (fun q => c ⟨h1.mpr q.2.1, h2.mpr q.2.2⟩)]
theorem chg_1 {A A' : Prop} [Decidable A'] {x z : Nat} [Decidable (A ∧ x = x ∧ z = z)] {ca : Int32} (h1 : A' ↔ A) : (if (!decide A') = true then ca + 1 else ca) = ca + (if A ∧ x = x ∧ z = z then 0 else 1) := by
  by_cases c : A'
  · rw [decide_eq_true c, if_neg (by decide), if_pos ⟨h1.mp c, rfl, rfl⟩, Int32.add_zero]
  · rw [decide_eq_false c, if_pos (by decide), if_neg (fun q => c (h1.mpr q.1))]
/-- the steps of law k lie where they should -/
def LwAt (Z : GZ) (o g j : Nat → Int32) (k : Nat) : Prop := LdS o g j (e0S Z k) (lwS Z k)
theorem lw_rk {N : Nat} {P H F T : Nat → Int32} {p h f t : Nat → Nat} {dy : Int32} {o g j : Nat → Int32} (e : EqS N P H F T p h f t) (ok : SnOk N p h f t) (hN : 0 < N) {s x u : Nat} {q : TN} (hw : WfT u q) (hu : u ≤ 400) (hl : LdS o g j s (stL N u q)) (hx : x = s + (stL N u q).length) : rkX (lfG N dy P H F T) o g j s x = ofN N dy p h f t u q := by
  rw [rk_is hl hx, ev_tree e ok hN u q [] hw (by simpa using hu)]
  rfl
/-- a law carried out -/
theorem car_ok {Z : GZ} {P H F T : Nat → Int32} {p h f t : Nat → Nat} {dy ca : Int32} {o g j l0 : Nat → Int32} {k : Nat} (e : EqS (toN Z) P H F T p h f t) (ok : SnOk (toN Z) p h f t) (hl : LwAt Z o g j k) (hl0 : l0 k = nI (toK Z k)) : EqS (toN Z) P (carS (toN Z) dy P o g j l0 (toV Z) (e0S Z) (fun k => e0S Z k + o1S Z k) (fun k => e0S Z k + (orS Z k).length) (fun k => e0S Z k + (lwS Z k).length) k ((H, F, T), ca)).1.1 (carS (toN Z) dy P o g j l0 (toV Z) (e0S Z) (fun k => e0S Z k + o1S Z k) (fun k => e0S Z k + (orS Z k).length) (fun k => e0S Z k + (lwS Z k).length) k ((H, F, T), ca)).1.2.1 (carS (toN Z) dy P o g j l0 (toV Z) (e0S Z) (fun k => e0S Z k + o1S Z k) (fun k => e0S Z k + (orS Z k).length) (fun k => e0S Z k + (lwS Z k).length) k ((H, F, T), ca)).1.2.2 p (pdS Z p dy k (h, f, t, ca)).1 (pdS Z p dy k (h, f, t, ca)).2.1 (pdS Z p dy k (h, f, t, ca)).2.2.1 ∧ (carS (toN Z) dy P o g j l0 (toV Z) (e0S Z) (fun k => e0S Z k + o1S Z k) (fun k => e0S Z k + (orS Z k).length) (fun k => e0S Z k + (lwS Z k).length) k ((H, F, T), ca)).2 = (pdS Z p dy k (h, f, t, ca)).2.2.2 := by
  have hN : 0 < toN Z := by have := toN_in Z; omega
  have hv := toV_lt Z k
  obtain ⟨w1, w2, w3⟩ := wf_one Z k
  obtain ⟨vp, vh, vf⟩ := ok.2 (toV Z k) hv
  obtain ⟨-, eh, ef, et⟩ := e (toV Z k) hv
  obtain ⟨hA, hB⟩ := LdS.app (l := orS Z k) hl
  have es : ∀ (r : Bool × HFT) (r4 : PD4), carF (lfG (toN Z) dy P H F T) o g j H F T (l0 k) (toV Z k) (e0S Z k) (e0S Z k + o1S Z k) (e0S Z k + (orS Z k).length) (e0S Z k + (lwS Z k).length) = r → pdS Z p dy k (h, f, t, ca) = r4 → EqS (toN Z) P r.2.1 r.2.2.1 r.2.2.2 p r4.1 r4.2.1 r4.2.2.1 → (if r.1 = true then ca + 1 else ca) = r4.2.2.2 → EqS (toN Z) P (carS (toN Z) dy P o g j l0 (toV Z) (e0S Z) (fun k => e0S Z k + o1S Z k) (fun k => e0S Z k + (orS Z k).length) (fun k => e0S Z k + (lwS Z k).length) k ((H, F, T), ca)).1.1 (carS (toN Z) dy P o g j l0 (toV Z) (e0S Z) (fun k => e0S Z k + o1S Z k) (fun k => e0S Z k + (orS Z k).length) (fun k => e0S Z k + (lwS Z k).length) k ((H, F, T), ca)).1.2.1 (carS (toN Z) dy P o g j l0 (toV Z) (e0S Z) (fun k => e0S Z k + o1S Z k) (fun k => e0S Z k + (orS Z k).length) (fun k => e0S Z k + (lwS Z k).length) k ((H, F, T), ca)).1.2.2 p (pdS Z p dy k (h, f, t, ca)).1 (pdS Z p dy k (h, f, t, ca)).2.1 (pdS Z p dy k (h, f, t, ca)).2.2.1 ∧ (carS (toN Z) dy P o g j l0 (toV Z) (e0S Z) (fun k => e0S Z k + o1S Z k) (fun k => e0S Z k + (orS Z k).length) (fun k => e0S Z k + (lwS Z k).length) k ((H, F, T), ca)).2 = (pdS Z p dy k (h, f, t, ca)).2.2.2 := by
    intro r r4 h1 h2 h3 h4
    subst h1
    rw [h2]
    exact ⟨h3, h4⟩
  have esame : (e0S Z k + (orS Z k).length < e0S Z k + (lwS Z k).length ∧ rkX (lfG (toN Z) dy P H F T) o g j (e0S Z k + (orS Z k).length) (e0S Z k + (lwS Z k).length) = 0) ↔ (hasT Z k = true ∧ ¬ ofN (toN Z) dy p h f t 4 (tesQ Z k) = 1) := by
    have el : (lwS Z k).length = (orS Z k).length + (teS Z k).length := by rw [lwS, List.length_append]
    by_cases c : hasT Z k = true
    · have et : teS Z k = stL (toN Z) 4 (tesQ Z k) := by rw [teS, if_pos c]
      have hp := stL_pos (toN Z) w3
      rw [et] at el hB
      have er := lw_rk (dy := dy) e ok hN w3 (by omega) hB (x := e0S Z k + (lwS Z k).length) (by omega)
      rw [er]
      rcases of_01 (n := toN Z) (dy := dy) (p := p) (h := h) (f := f) (t := t) 4 (tesQ Z k) rfl w3 with e9 | e9
      · rw [e9]
        exact ⟨fun _ => ⟨c, by decide⟩, fun _ => ⟨by omega, rfl⟩⟩
      · rw [e9]
        exact ⟨fun q => absurd q.2 (by decide), fun q => absurd rfl q.2⟩
    · have et : teS Z k = [] := by rw [teS, if_neg c]
      rw [et] at el
      simp only [List.length_nil] at el
      exact ⟨fun q => by omega, fun q => absurd q.1 c⟩
  by_cases sk : hasT Z k = true ∧ ¬ ofN (toN Z) dy p h f t 4 (tesQ Z k) = 1
  · refine es (false, H, F, T) (h, f, t, ca) ?_ (pdS_no sk.1 sk.2) e (if_neg Bool.false_ne_true)
    rw [carF, if_pos (esame.mpr sk)]
  have nsk := fun q => sk (esame.mp q)
  rcases toK_in Z k with k0 | k0 | k0
  · have eo : orS Z k = onS Z k ++ twS Z k := by rw [orS, if_pos k0]
    have e1 : o1S Z k = (onS Z k).length := by rw [o1S, if_neg (by omega)]
    rw [eo] at hA
    obtain ⟨hA1, hA2⟩ := LdS.app (l := onS Z k) hA
    have r1 := lw_rk (dy := dy) e ok hN w1 (by omega) hA1 (x := e0S Z k + o1S Z k) (by rw [e1]; rfl)
    have r2 := lw_rk (dy := dy) e ok hN w2 (by omega) hA2 (x := e0S Z k + (orS Z k).length) (by rw [eo, List.length_append]; unfold onS twS; omega)
    have r2' : rkX (lfG (toN Z) dy P H F T) o g j (e0S Z k + o1S Z k) (e0S Z k + (orS Z k).length) = ofN (toN Z) dy p h f t 2 (twoQ Z k) := by rw [e1]; exact r2
    obtain ⟨-, a1, a2⟩ := hd_cl (ofN (toN Z) dy p h f t 2 (oneQ Z k))
    obtain ⟨-, b1, b2⟩ := hd_cl (ofN (toN Z) dy p h f t 2 (twoQ Z k))
    have ec : carF (lfG (toN Z) dy P H F T) o g j H F T (l0 k) (toV Z k) (e0S Z k) (e0S Z k + o1S Z k) (e0S Z k + (orS Z k).length) (e0S Z k + (lwS Z k).length) = if nI (clN (ofN (toN Z) dy p h f t 2 (twoQ Z k))) < nI (clN (ofN (toN Z) dy p h f t 2 (oneQ Z k))) then (false, H, F, T) else cuF H F T (toV Z k) (nI (clN (ofN (toN Z) dy p h f t 2 (oneQ Z k)))) (nI (clN (ofN (toN Z) dy p h f t 2 (twoQ Z k)))) := by
      rw [carF, if_neg nsk, hl0, k0, r1, r2', hl_cl, hl_cl]
      rfl
    by_cases c : clN (ofN (toN Z) dy p h f t 2 (oneQ Z k)) ≤ clN (ofN (toN Z) dy p h f t 2 (twoQ Z k))
    · have ep : pd3 Z p dy h f t k = (h, upN f (toV Z k) (clN (ofN (toN Z) dy p h f t 2 (oneQ Z k))), upN t (toV Z k) (clN (ofN (toN Z) dy p h f t 2 (twoQ Z k)))) := by rw [pd3, if_pos k0, if_pos c]
      rw [if_neg (fun q => by have := (nI_lt2 (by omega) (by omega)).mp q; omega)] at ec
      have c6 : nI (clN (ofN (toN Z) dy p h f t 2 (oneQ Z k))) = cuI (clN (ofN (toN Z) dy p h f t 2 (oneQ Z k))) := (cu_nI (by omega)).symm
      have d6 : nI (clN (ofN (toN Z) dy p h f t 2 (twoQ Z k))) = cuI (clN (ofN (toN Z) dy p h f t 2 (twoQ Z k))) := (cu_nI (by omega)).symm
      refine es _ _ ec (pdS_yes sk ep rfl) ?_ ?_
      · rw [c6, d6]
        exact e.upC
      · show (if (!(decide (F (toV Z k) = _) && decide (T (toV Z k) = _))) = true then ca + 1 else ca) = ca + pdC _ _ _ _ _
        rw [c6, d6, ef, et]
        unfold pdC
        dsimp only
        have q1 := cu_inj (x := f (toV Z k)) (y := clN (ofN (toN Z) dy p h f t 2 (oneQ Z k))) (by omega) (by omega)
        have q2 := cu_inj (x := t (toV Z k)) (y := clN (ofN (toN Z) dy p h f t 2 (twoQ Z k))) (by omega) (by omega)
        exact chg_2 rfl (q1.trans (by rw [upN_s]; exact eq_comm)) (q2.trans (by rw [upN_s]; exact eq_comm))
    · have ep : pd3 Z p dy h f t k = (h, f, t) := by rw [pd3, if_pos k0, if_neg c]
      rw [if_pos ((nI_lt2 (by omega) (by omega)).mpr (by omega))] at ec
      refine es _ _ ec (pdS_yes sk ep rfl) e ?_
      show (if false = true then ca + 1 else ca) = ca + pdC _ _ _ _ _
      unfold pdC
      rw [if_neg Bool.false_ne_true, if_pos ⟨rfl, rfl, rfl⟩, Int32.add_zero]
  · have ec : carF (lfG (toN Z) dy P H F T) o g j H F T (l0 k) (toV Z k) (e0S Z k) (e0S Z k + o1S Z k) (e0S Z k + (orS Z k).length) (e0S Z k + (lwS Z k).length) = cuF H F T (toV Z k) (cuI 0) (cuI 0) := by
      rw [carF, if_neg nsk, hl0, k0]
      rfl
    have ep : pd3 Z p dy h f t k = (h, upN f (toV Z k) 0, upN t (toV Z k) 0) := by rw [pd3, if_neg (by omega), if_pos k0]
    refine es _ _ ec (pdS_yes sk ep rfl) e.upC ?_
    show (if (!(decide (F (toV Z k) = _) && decide (T (toV Z k) = _))) = true then ca + 1 else ca) = ca + pdC _ _ _ _ _
    rw [ef, et]
    unfold pdC
    dsimp only
    have q1 := cu_inj (x := f (toV Z k)) (y := 0) (by omega) (by omega)
    have q2 := cu_inj (x := t (toV Z k)) (y := 0) (by omega) (by omega)
    exact chg_2 rfl (q1.trans (by rw [upN_s]; exact eq_comm)) (q2.trans (by rw [upN_s]; exact eq_comm))
  · have eo : orS Z k = onS Z k := by rw [orS, if_neg (by omega), if_neg (by omega)]
    have e1 : o1S Z k = (onS Z k).length := by rw [o1S, if_neg (by omega)]
    rw [eo] at hA
    have r1 := lw_rk (dy := dy) e ok hN w1 (by omega) hA (x := e0S Z k + o1S Z k) (by rw [e1]; rfl)
    have hr := hl_ra vh (ofN (toN Z) dy p h f t 2 (oneQ Z k))
    have hr2 := (hd_ra vh (ofN (toN Z) dy p h f t 2 (oneQ Z k))).2
    have ec : carF (lfG (toN Z) dy P H F T) o g j H F T (l0 k) (toV Z k) (e0S Z k) (e0S Z k + o1S Z k) (e0S Z k + (orS Z k).length) (e0S Z k + (lwS Z k).length) = hgF H F T (toV Z k) (nI (raN (h (toV Z k)) (ofN (toN Z) dy p h f t 2 (oneQ Z k)))) := by
      rw [carF, if_neg nsk, hl0, k0, r1, eh, hr]
      rfl
    have ep : pd3 Z p dy h f t k = (upN h (toV Z k) (raN (h (toV Z k)) (ofN (toN Z) dy p h f t 2 (oneQ Z k))), f, t) := by rw [pd3, if_neg (by omega), if_neg (by omega)]
    refine es _ _ ec (pdS_yes sk ep rfl) e.upH ?_
    show (if (!decide (H (toV Z k) = _)) = true then ca + 1 else ca) = ca + pdC _ _ _ _ _
    rw [eh]
    unfold pdC
    dsimp only
    have q1 := nI_eq (a := h (toV Z k)) (b := raN (h (toV Z k)) (ofN (toN Z) dy p h f t 2 (oneQ Z k))) (by omega) (by omega)
    exact chg_1 (q1.trans (by rw [upN_s]; exact eq_comm))
theorem day_go {Z : GZ} {P : Nat → Int32} {p : Nat → Nat} {dy : Int32} {o g j l0 : Nat → Int32} {h0 f0 t0 : Nat → Nat} {ca0 : Int32} (ok0 : SnOk (toN Z) p h0 f0 t0) {M : Nat} (hl : ∀ k, k < M → LwAt Z o g j k) (hl0 : ∀ k, k < M → l0 k = nI (toK Z k)) : ∀ (n i : Nat) (q : HFT × Int32), i + n ≤ M → EqS (toN Z) P q.1.1 q.1.2.1 q.1.2.2 p (pdN Z p dy (h0, f0, t0, ca0) i).1 (pdN Z p dy (h0, f0, t0, ca0) i).2.1 (pdN Z p dy (h0, f0, t0, ca0) i).2.2.1 → q.2 = (pdN Z p dy (h0, f0, t0, ca0) i).2.2.2 → EqS (toN Z) P (dayL (toN Z) dy P o g j l0 (toV Z) (e0S Z) (fun k => e0S Z k + o1S Z k) (fun k => e0S Z k + (orS Z k).length) (fun k => e0S Z k + (lwS Z k).length) i n q).1.1 (dayL (toN Z) dy P o g j l0 (toV Z) (e0S Z) (fun k => e0S Z k + o1S Z k) (fun k => e0S Z k + (orS Z k).length) (fun k => e0S Z k + (lwS Z k).length) i n q).1.2.1 (dayL (toN Z) dy P o g j l0 (toV Z) (e0S Z) (fun k => e0S Z k + o1S Z k) (fun k => e0S Z k + (orS Z k).length) (fun k => e0S Z k + (lwS Z k).length) i n q).1.2.2 p (pdN Z p dy (h0, f0, t0, ca0) (i + n)).1 (pdN Z p dy (h0, f0, t0, ca0) (i + n)).2.1 (pdN Z p dy (h0, f0, t0, ca0) (i + n)).2.2.1 ∧ (dayL (toN Z) dy P o g j l0 (toV Z) (e0S Z) (fun k => e0S Z k + o1S Z k) (fun k => e0S Z k + (orS Z k).length) (fun k => e0S Z k + (lwS Z k).length) i n q).2 = (pdN Z p dy (h0, f0, t0, ca0) (i + n)).2.2.2
  | 0, _, _, _, he, hc => ⟨he, hc⟩
  | n + 1, i, q, hi, he, hc => by
    have ok := pdN_ok (Z := Z) (dy := dy) (q := (h0, f0, t0, ca0)) ok0 i
    have h1 := car_ok (dy := dy) (ca := q.2) he ok (hl i (by omega)) (hl0 i (by omega))
    have e9 : pdN Z p dy (h0, f0, t0, ca0) (i + 1) = pdS Z p dy i ((pdN Z p dy (h0, f0, t0, ca0) i).1, (pdN Z p dy (h0, f0, t0, ca0) i).2.1, (pdN Z p dy (h0, f0, t0, ca0) i).2.2.1, q.2) := by rw [hc]; rfl
    rw [← e9] at h1
    have h2 := day_go ok0 hl hl0 n (i + 1) (carS (toN Z) dy P o g j l0 (toV Z) (e0S Z) (fun k => e0S Z k + o1S Z k) (fun k => e0S Z k + (orS Z k).length) (fun k => e0S Z k + (lwS Z k).length) i q) (by omega) h1.1 h1.2
    have e8 : i + (n + 1) = i + 1 + n := by omega
    rw [e8]
    exact h2
theorem day_ok {Z : GZ} {o g j l0 : Nat → Int32} {M : Nat} (hl : ∀ k, k < M → LwAt Z o g j k) (hl0 : ∀ k, k < M → l0 k = nI (toK Z k)) (hM : M = toM Z) : DayOk Z o g j l0 (toV Z) (e0S Z) (fun k => e0S Z k + o1S Z k) (fun k => e0S Z k + (orS Z k).length) (fun k => e0S Z k + (lwS Z k).length) M := by
  intro P H F T p h f t dy ca e ok
  subst hM
  have h1 := day_go (ca0 := ca) (dy := dy) ok hl hl0 (toM Z) 0 ((H, F, T), ca) (by omega) e rfl
  rw [Nat.zero_add] at h1
  exact ⟨h1.1, h1.2, rfl⟩
/-- the told text is read as it was told -/
theorem rd_ok (Z : GZ) (hT : ∀ i, (lwT Z (toM Z)).getD i 32 < 128) : RdOk Z (lwT Z (toM Z)).length (tbT (lwT Z (toM Z)) (((lwT Z (toM Z)).length + 19) / 20)) := by
  have hM := toM_in Z
  have hlen := lwT_len Z (toM Z)
  have hl : (lwT Z (toM Z)).length ≤ 1900 := by omega
  have h8 : Sml (lwT Z (toM Z)) := fun c hc => by
    obtain ⟨i, hi, rfl⟩ := List.mem_iff_getElem.mp hc
    have := hT i
    rw [List.getD_eq_getElem?_getD, List.getElem?_eq_getElem hi] at this
    exact this
  have htp := tp_told hT hl
  have hI := lwR_len Z (toM Z)
  have hIl : (lwR Z (toM Z)).length ≤ 399 := by omega
  intro sf0 opd f1d f2d bPd bHd l0d l1d l2d l3d l4d l5d nmd vf0
  obtain ⟨a1, a2, a3⟩ := lex_text htp h8 hl (fl_told Z) hIl vf0
  obtain ⟨o2, g2, j2, bP2, bH2, l0', l1', l2', l3', l4', l5', nm2, b1, b2, b3, b4⟩ := rd_told (sf := sfF (lwT Z (toM Z)).length (tbT (lwT Z (toM Z)) (((lwT Z (toM Z)).length + 19) / 20)) sf0 (tL (lwT Z (toM Z)).length (tbT (lwT Z (toM Z)) (((lwT Z (toM Z)).length + 19) / 20)) + 1)) (nmd := nmd) (opd := opd) (f1d := f1d) (f2d := f2d) (bPd := bPd) (bHd := bHd) (l0d := l0d) (l1d := l1d) (l2d := l2d) (l3d := l3d) (l4d := l4d) (l5d := l5d) a1 a2
  have hle : ∀ k, k < toM Z → e0S Z k ≤ 84 := fun k hk => by
    have := lsR_len Z k
    unfold e0S
    omega
  refine ⟨(lwR Z (toM Z)).length, (lsR Z (toM Z)).length, false, -1, o2, g2, j2, bP2, bH2, l0', l1', l2', l3', l4', l5', nm2, e0S Z, (fun k => e0S Z k + o1S Z k), (fun k => e0S Z k + (orS Z k).length), (fun k => e0S Z k + (lwS Z k).length), b1, b2, fun k hk => ?_, fun o g j l0 h1 h2 => ?_⟩
  · obtain ⟨x1, x2, x3⟩ := lwS_len Z k
    have := hle k hk
    exact ⟨(b3 k hk).2.1, (b3 k hk).2.2.1, (b3 k hk).2.2.2.1, (b3 k hk).2.2.2.2.1, (b3 k hk).2.2.2.2.2, by omega, by show e0S Z k + o1S Z k ≤ 400; omega, by show e0S Z k + (orS Z k).length ≤ 400; omega, by show e0S Z k + (lwS Z k).length ≤ 400; omega⟩
  · have b5 : LdS o g j 0 (lsR Z (toM Z)) := b4.congr (fun i hi => h1 i (by omega))
    exact day_ok (fun k hk => lds_at b5 k hk) (fun k hk => (h2 k hk).trans (b3 k hk).1) rfl
