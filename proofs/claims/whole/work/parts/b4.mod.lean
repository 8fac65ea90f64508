theorem n_X10_placeOf {Z : GZ} {l : Launch} {mo : Nat → Nat} {th : Int32} {N u tm : Nat} {er dg co : Int32} {pP pH pF pT op f1 f2 l0 tb : Nat → Int32} {hh c0 c1 c2 c3 : Nat → Nat} {q : Int32} {w0 : va_W} (hM : MI Z mo th N u tm er dg co pP pH pF pT op f1 f2 l0 hh c0 c1 c2 c3 tb w0) : Ct Z l yX10_placeOf cX10_placeOf 2 (some .int) (rmK 9) [.ref (mo 0), .int q] w0 (fun v w => (((if ¬ hasB (nI N) q = true then 1 else 0) : Int32) = 0 ∧ v = some (.int (stAt (nI N) q pP (-1))) ∧ MI Z mo 0 N u tm er dg co pP pH pF pT op f1 f2 l0 hh c0 c1 c2 c3 tb w) ∨ (∃ z, ¬ ((if ¬ hasB (nI N) q = true then 1 else 0) : Int32) = 0 ∧ v = some (.int (z)) ∧ MI Z mo ((if ¬ hasB (nI N) q = true then 1 else 0) : Int32) N u tm er dg co pP pH pF pT op f1 f2 l0 hh c0 c1 c2 c3 tb w)) := by
  refine MI.elim hM (fun pl tk dp lr mn kn hn va ha hg dz wh bg en od wi al tp kd fr me wo kh kf kl sh dk sk S hs e9 hkn hS4 hrow hlaw htp => ?_)
  subst e9
  have hN := hs.1
  refine (c_X10_placeOf hN hkn).weaken (fun v w h9 => ?_)
  rcases h9 with ⟨kn2, sh2, dk2, ok2, ⟨i, hi, rfl, rfl, rfl⟩ | ⟨hno, rfl, rfl⟩⟩
  · exact Or.inl ⟨by rw [if_neg (fun z => z (hasB_nI hi hN))], congrArg (fun z => some (Value.int z)) ((stAt_nI hi hN pP (-1)).symm), MI.mk pl tk dp lr mn kn2 hn va ha hg dz wh bg en od wi al tp kd fr me wo kh kf kl sh2 dk2 sk S hs rfl ok2 hS4 hrow hlaw htp⟩
  · have hc : ((if ¬ hasB (nI N) q = true then 1 else 0) : Int32) = 1 := by rw [if_pos (fun z => hno (hasB_ex hN z))]
    refine Or.inr ⟨0, by rw [hc]; decide, rfl, ?_⟩
    rw [hc]
    exact MI.mk pl tk dp lr mn kn2 hn va ha hg dz wh bg en od wi al tp kd fr me wo kh kf kl sh2 dk2 sk S hs rfl ok2 hS4 hrow hlaw htp
theorem n_X10_heightOf {Z : GZ} {l : Launch} {mo : Nat → Nat} {th : Int32} {N u tm : Nat} {er dg co : Int32} {pP pH pF pT op f1 f2 l0 tb : Nat → Int32} {hh c0 c1 c2 c3 : Nat → Nat} {q : Int32} {w0 : va_W} (hM : MI Z mo th N u tm er dg co pP pH pF pT op f1 f2 l0 hh c0 c1 c2 c3 tb w0) : Ct Z l yX10_heightOf cX10_heightOf 2 (some .int) (rmK 9) [.ref (mo 0), .int q] w0 (fun v w => (((if ¬ hasB (nI N) q = true then 1 else 0) : Int32) = 0 ∧ v = some (.int (stAt (nI N) q pH 0)) ∧ MI Z mo 0 N u tm er dg co pP pH pF pT op f1 f2 l0 hh c0 c1 c2 c3 tb w) ∨ (∃ z, ¬ ((if ¬ hasB (nI N) q = true then 1 else 0) : Int32) = 0 ∧ v = some (.int (z)) ∧ MI Z mo ((if ¬ hasB (nI N) q = true then 1 else 0) : Int32) N u tm er dg co pP pH pF pT op f1 f2 l0 hh c0 c1 c2 c3 tb w)) := by
  refine MI.elim hM (fun pl tk dp lr mn kn hn va ha hg dz wh bg en od wi al tp kd fr me wo kh kf kl sh dk sk S hs e9 hkn hS4 hrow hlaw htp => ?_)
  subst e9
  have hN := hs.1
  refine (c_X10_heightOf hN hkn).weaken (fun v w h9 => ?_)
  rcases h9 with ⟨kn2, sh2, dk2, ok2, ⟨i, hi, rfl, rfl, rfl⟩ | ⟨hno, rfl, rfl⟩⟩
  · exact Or.inl ⟨by rw [if_neg (fun z => z (hasB_nI hi hN))], congrArg (fun z => some (Value.int z)) ((stAt_nI hi hN pH 0).symm), MI.mk pl tk dp lr mn kn2 hn va ha hg dz wh bg en od wi al tp kd fr me wo kh kf kl sh2 dk2 sk S hs rfl ok2 hS4 hrow hlaw htp⟩
  · have hc : ((if ¬ hasB (nI N) q = true then 1 else 0) : Int32) = 1 := by rw [if_pos (fun z => hno (hasB_ex hN z))]
    refine Or.inr ⟨0, by rw [hc]; decide, rfl, ?_⟩
    rw [hc]
    exact MI.mk pl tk dp lr mn kn2 hn va ha hg dz wh bg en od wi al tp kd fr me wo kh kf kl sh2 dk2 sk S hs rfl ok2 hS4 hrow hlaw htp
theorem n_X10_hoursLost {Z : GZ} {l : Launch} {mo : Nat → Nat} {th : Int32} {N u tm : Nat} {er dg co : Int32} {pP pH pF pT op f1 f2 l0 tb : Nat → Int32} {hh c0 c1 c2 c3 : Nat → Nat} {q : Int32} {w0 : va_W} (hM : MI Z mo th N u tm er dg co pP pH pF pT op f1 f2 l0 hh c0 c1 c2 c3 tb w0) : Ct Z l yX10_hoursLost cX10_hoursLost 2 (some .int) (rmK 9) [.ref (mo 0), .int q] w0 (fun v w => (((if ¬ hasB (nI N) q = true then 1 else 0) : Int32) = 0 ∧ v = some (.int (bitC (stAt (nI N) q (dkG N pP pH pF pT) 0))) ∧ MI Z mo 0 N u tm er dg co pP pH pF pT op f1 f2 l0 hh c0 c1 c2 c3 tb w) ∨ (∃ z, ¬ ((if ¬ hasB (nI N) q = true then 1 else 0) : Int32) = 0 ∧ v = some (.int (z)) ∧ MI Z mo ((if ¬ hasB (nI N) q = true then 1 else 0) : Int32) N u tm er dg co pP pH pF pT op f1 f2 l0 hh c0 c1 c2 c3 tb w)) := by
  refine MI.elim hM (fun pl tk dp lr mn kn hn va ha hg dz wh bg en od wi al tp kd fr me wo kh kf kl sh dk sk S hs e9 hkn hS4 hrow hlaw htp => ?_)
  subst e9
  have hN := hs.1
  refine (c_X10_hoursLost hN hkn).weaken (fun v w h9 => ?_)
  rcases h9 with ⟨kn2, sh2, dk2, ok2, ⟨i, hi, rfl, rfl, rfl⟩ | ⟨hno, rfl, rfl⟩⟩
  · exact Or.inl ⟨by rw [if_neg (fun z => z (hasB_nI hi hN))], congrArg (fun z => some (Value.int z)) (by rw [stAt_nI hi hN, ls_eq hs.2.2.2.1 hs.2.2.2.2.1 hi]), MI.mk pl tk dp lr mn kn2 hn va ha hg dz wh bg en od wi al tp kd fr me wo kh kf kl sh2 dk2 sk S hs rfl ok2 hS4 hrow hlaw htp⟩
  · have hc : ((if ¬ hasB (nI N) q = true then 1 else 0) : Int32) = 1 := by rw [if_pos (fun z => hno (hasB_ex hN z))]
    refine Or.inr ⟨0, by rw [hc]; decide, rfl, ?_⟩
    rw [hc]
    exact MI.mk pl tk dp lr mn kn2 hn va ha hg dz wh bg en od wi al tp kd fr me wo kh kf kl sh2 dk2 sk S hs rfl ok2 hS4 hrow hlaw htp
theorem n_X10_castBy {Z : GZ} {l : Launch} {mo : Nat → Nat} {th : Int32} {N u tm : Nat} {er dg co : Int32} {pP pH pF pT op f1 f2 l0 tb : Nat → Int32} {hh c0 c1 c2 c3 : Nat → Nat} {q : Int32} {w0 : va_W} (hM : MI Z mo th N u tm er dg co pP pH pF pT op f1 f2 l0 hh c0 c1 c2 c3 tb w0) : Ct Z l yX10_castBy cX10_castBy 2 (some .int) (rmK 9) [.ref (mo 0), .int q] w0 (fun v w => (((if ¬ hasB (nI N) q = true then 1 else 0) : Int32) = 0 ∧ v = some (.int (stAt (nI N) q (csG N pP pH pF pT) 0)) ∧ MI Z mo 0 N u tm er dg co pP pH pF pT op f1 f2 l0 hh c0 c1 c2 c3 tb w) ∨ (∃ z, ¬ ((if ¬ hasB (nI N) q = true then 1 else 0) : Int32) = 0 ∧ v = some (.int (z)) ∧ MI Z mo ((if ¬ hasB (nI N) q = true then 1 else 0) : Int32) N u tm er dg co pP pH pF pT op f1 f2 l0 hh c0 c1 c2 c3 tb w)) := by
  refine MI.elim hM (fun pl tk dp lr mn kn hn va ha hg dz wh bg en od wi al tp kd fr me wo kh kf kl sh dk sk S hs e9 hkn hS4 hrow hlaw htp => ?_)
  subst e9
  have hN := hs.1
  refine (c_X10_castBy hN hkn).weaken (fun v w h9 => ?_)
  rcases h9 with ⟨kn2, sh2, dk2, ok2, ⟨i, hi, rfl, rfl, rfl⟩ | ⟨hno, rfl, rfl⟩⟩
  · exact Or.inl ⟨by rw [if_neg (fun z => z (hasB_nI hi hN))], congrArg (fun z => some (Value.int z)) (by rw [stAt_nI hi hN, ct_eq hs.2.2.2.1 hs.2.2.2.2.1 hi]), MI.mk pl tk dp lr mn kn2 hn va ha hg dz wh bg en od wi al tp kd fr me wo kh kf kl sh2 dk2 sk S hs rfl ok2 hS4 hrow hlaw htp⟩
  · have hc : ((if ¬ hasB (nI N) q = true then 1 else 0) : Int32) = 1 := by rw [if_pos (fun z => hno (hasB_ex hN z))]
    refine Or.inr ⟨0, by rw [hc]; decide, rfl, ?_⟩
    rw [hc]
    exact MI.mk pl tk dp lr mn kn2 hn va ha hg dz wh bg en od wi al tp kd fr me wo kh kf kl sh2 dk2 sk S hs rfl ok2 hS4 hrow hlaw htp
theorem n_X10_hasCurfew {Z : GZ} {l : Launch} {mo : Nat → Nat} {th : Int32} {N u tm : Nat} {er dg co : Int32} {pP pH pF pT op f1 f2 l0 tb : Nat → Int32} {hh c0 c1 c2 c3 : Nat → Nat} {q : Int32} {w0 : va_W} (hM : MI Z mo th N u tm er dg co pP pH pF pT op f1 f2 l0 hh c0 c1 c2 c3 tb w0) : Ct Z l yX10_hasCurfew cX10_hasCurfew 2 (some .boolean) (rmK 9) [.ref (mo 0), .int q] w0 (fun v w => (((if ¬ hasB (nI N) q = true then 1 else 0) : Int32) = 0 ∧ v = some (.int (b2i (!decide (stAt (nI N) q pF (-1) = -1)))) ∧ MI Z mo 0 N u tm er dg co pP pH pF pT op f1 f2 l0 hh c0 c1 c2 c3 tb w) ∨ (∃ z, ¬ ((if ¬ hasB (nI N) q = true then 1 else 0) : Int32) = 0 ∧ v = some (.int (b2i (z))) ∧ MI Z mo ((if ¬ hasB (nI N) q = true then 1 else 0) : Int32) N u tm er dg co pP pH pF pT op f1 f2 l0 hh c0 c1 c2 c3 tb w)) := by
  refine MI.elim hM (fun pl tk dp lr mn kn hn va ha hg dz wh bg en od wi al tp kd fr me wo kh kf kl sh dk sk S hs e9 hkn hS4 hrow hlaw htp => ?_)
  subst e9
  have hN := hs.1
  refine (c_X10_hasCurfew hN hkn).weaken (fun v w h9 => ?_)
  rcases h9 with ⟨kn2, sh2, dk2, ok2, ⟨i, ⟨hi, rfl⟩, rfl, rfl⟩ | ⟨hno, rfl, rfl⟩⟩
  · exact Or.inl ⟨by rw [if_neg (fun z => z (hasB_nI hi hN))], congrArg (fun z => some (Value.int (b2i z))) (by rw [stAt_nI hi hN]), MI.mk pl tk dp lr mn kn2 hn va ha hg dz wh bg en od wi al tp kd fr me wo kh kf kl sh2 dk2 sk S hs rfl ok2 hS4 hrow hlaw htp⟩
  · have hc : ((if ¬ hasB (nI N) q = true then 1 else 0) : Int32) = 1 := by rw [if_pos (fun z => hno (hasB_ex hN z))]
    refine Or.inr ⟨false, by rw [hc]; decide, rfl, ?_⟩
    rw [hc]
    exact MI.mk pl tk dp lr mn kn2 hn va ha hg dz wh bg en od wi al tp kd fr me wo kh kf kl sh2 dk2 sk S hs rfl ok2 hS4 hrow hlaw htp
theorem n_X10_hoursLostTo {Z : GZ} {l : Launch} {mo : Nat → Nat} {th : Int32} {N u tm : Nat} {er dg co : Int32} {pP pH pF pT op f1 f2 l0 tb : Nat → Int32} {hh c0 c1 c2 c3 : Nat → Nat} {q : Int32} {g : Int32} {w0 : va_W} (hM : MI Z mo th N u tm er dg co pP pH pF pT op f1 f2 l0 hh c0 c1 c2 c3 tb w0) : Ct Z l yX10_hoursLostTo cX10_hoursLostTo 3 (some .int) (rmK 9) [.ref (mo 0), .int q, .int g] w0 (fun v w => (((if ¬ hasB (nI N) q = true then 1 else (if ¬ hasB (nI N) g = true then 1 else 0)) : Int32) = 0 ∧ v = some (.int (bitC (shX N pP pH pF pT q g))) ∧ MI Z mo 0 N u tm er dg co pP pH pF pT op f1 f2 l0 hh c0 c1 c2 c3 tb w) ∨ (∃ z, ¬ ((if ¬ hasB (nI N) q = true then 1 else (if ¬ hasB (nI N) g = true then 1 else 0)) : Int32) = 0 ∧ v = some (.int (z)) ∧ MI Z mo ((if ¬ hasB (nI N) q = true then 1 else (if ¬ hasB (nI N) g = true then 1 else 0)) : Int32) N u tm er dg co pP pH pF pT op f1 f2 l0 hh c0 c1 c2 c3 tb w)) := by
  refine MI.elim hM (fun pl tk dp lr mn kn hn va ha hg dz wh bg en od wi al tp kd fr me wo kh kf kl sh dk sk S hs e9 hkn hS4 hrow hlaw htp => ?_)
  subst e9
  have hN := hs.1
  refine (c_X10_hoursLostTo hN hkn).weaken (fun v w h9 => ?_)
  rcases h9 with ⟨kn2, sh2, dk2, ok2, ⟨i, i2, hi, hi2, rfl, rfl, rfl, rfl⟩ | ⟨hno, rfl, rfl⟩⟩
  · exact Or.inl ⟨by rw [if_neg (fun z => z (hasB_nI hi hN)), if_neg (fun z => z (hasB_nI hi2 hN))], congrArg (fun z => some (Value.int z)) (by rw [shX_nI hi hi2 hN, lk_eq hs.2.2.2.1 hs.2.2.2.2.1 hi hi2]), MI.mk pl tk dp lr mn kn2 hn va ha hg dz wh bg en od wi al tp kd fr me wo kh kf kl sh2 dk2 sk S hs rfl ok2 hS4 hrow hlaw htp⟩
  · by_cases hq : hasB (nI N) q = true
    · have hc : ((if ¬ hasB (nI N) q = true then 1 else (if ¬ hasB (nI N) g = true then 1 else 0)) : Int32) = 1 := by rw [if_neg (fun z => z hq), if_pos (fun z => by obtain ⟨i, hi, e⟩ := hasB_ex hN hq; obtain ⟨j, hj, e2⟩ := hasB_ex hN z; exact hno ⟨i, j, hi, hj, e, e2⟩)]
      refine Or.inr ⟨0, by rw [hc]; decide, rfl, ?_⟩
      rw [hc]
      exact MI.mk pl tk dp lr mn kn2 hn va ha hg dz wh bg en od wi al tp kd fr me wo kh kf kl sh2 dk2 sk S hs rfl ok2 hS4 hrow hlaw htp
    · have hc : ((if ¬ hasB (nI N) q = true then 1 else (if ¬ hasB (nI N) g = true then 1 else 0)) : Int32) = 1 := by rw [if_pos hq]
      refine Or.inr ⟨0, by rw [hc]; decide, rfl, ?_⟩
      rw [hc]
      exact MI.mk pl tk dp lr mn kn2 hn va ha hg dz wh bg en od wi al tp kd fr me wo kh kf kl sh2 dk2 sk S hs rfl ok2 hS4 hrow hlaw htp
theorem n_X10_heightAt {Z : GZ} {l : Launch} {mo : Nat → Nat} {th : Int32} {N u tm : Nat} {er dg co : Int32} {pP pH pF pT op f1 f2 l0 tb : Nat → Int32} {hh c0 c1 c2 c3 : Nat → Nat} {q : Int32} {g : Int32} {w0 : va_W} (hM : MI Z mo th N u tm er dg co pP pH pF pT op f1 f2 l0 hh c0 c1 c2 c3 tb w0) : Ct Z l yX10_heightAt cX10_heightAt 3 (some .int) (rmK 9) [.ref (mo 0), .int q, .int g] w0 (fun v w => (((if ¬ hasB (nI N) q = true then 1 else (if (g < 0 ∨ 24 ≤ g) then 1 else 0)) : Int32) = 0 ∧ v = some (.int (wallF (nI N) pH pF pT q g)) ∧ MI Z mo 0 N u tm er dg co pP pH pF pT op f1 f2 l0 hh c0 c1 c2 c3 tb w) ∨ (∃ z, ¬ ((if ¬ hasB (nI N) q = true then 1 else (if (g < 0 ∨ 24 ≤ g) then 1 else 0)) : Int32) = 0 ∧ v = some (.int (z)) ∧ MI Z mo ((if ¬ hasB (nI N) q = true then 1 else (if (g < 0 ∨ 24 ≤ g) then 1 else 0)) : Int32) N u tm er dg co pP pH pF pT op f1 f2 l0 hh c0 c1 c2 c3 tb w)) := by
  refine MI.elim hM (fun pl tk dp lr mn kn hn va ha hg dz wh bg en od wi al tp kd fr me wo kh kf kl sh dk sk S hs e9 hkn hS4 hrow hlaw htp => ?_)
  subst e9
  have hN := hs.1
  refine (c_X10_heightAt hN hkn).weaken (fun v w h9 => ?_)
  rcases h9 with ⟨kn2, sh2, dk2, ok2, ⟨i, ⟨⟨hi, rfl⟩, hh9⟩, rfl, rfl⟩ | ⟨hno, rfl, rfl⟩⟩
  · exact Or.inl ⟨by rw [if_neg (fun z => z (hasB_nI hi hN)), if_neg hh9], congrArg (fun z => some (Value.int z)) (tl_wallF hi hN hs.2.2.2.2.1 hh9), MI.mk pl tk dp lr mn kn2 hn va ha hg dz wh bg en od wi al tp kd fr me wo kh kf kl sh2 dk2 sk S hs rfl ok2 hS4 hrow hlaw htp⟩
  · by_cases hq : hasB (nI N) q = true
    · have hc : ((if ¬ hasB (nI N) q = true then 1 else (if (g < 0 ∨ 24 ≤ g) then 1 else 0)) : Int32) = 1 := by rw [if_neg (fun z => z hq), if_pos (Classical.byContradiction (fun z => by obtain ⟨i, hi, e⟩ := hasB_ex hN hq; exact hno ⟨i, ⟨hi, e⟩, z⟩))]
      refine Or.inr ⟨0, by rw [hc]; decide, rfl, ?_⟩
      rw [hc]
      exact MI.mk pl tk dp lr mn kn2 hn va ha hg dz wh bg en od wi al tp kd fr me wo kh kf kl sh2 dk2 sk S hs rfl ok2 hS4 hrow hlaw htp
    · have hc : ((if ¬ hasB (nI N) q = true then 1 else (if (g < 0 ∨ 24 ≤ g) then 1 else 0)) : Int32) = 1 := by rw [if_pos hq]
      refine Or.inr ⟨0, by rw [hc]; decide, rfl, ?_⟩
      rw [hc]
      exact MI.mk pl tk dp lr mn kn2 hn va ha hg dz wh bg en od wi al tp kd fr me wo kh kf kl sh2 dk2 sk S hs rfl ok2 hS4 hrow hlaw htp
theorem n_X10_shadowOf {Z : GZ} {l : Launch} {mo : Nat → Nat} {th : Int32} {N u tm : Nat} {er dg co : Int32} {pP pH pF pT op f1 f2 l0 tb : Nat → Int32} {hh c0 c1 c2 c3 : Nat → Nat} {q : Int32} {g : Int32} {w0 : va_W} (hM : MI Z mo th N u tm er dg co pP pH pF pT op f1 f2 l0 hh c0 c1 c2 c3 tb w0) : Ct Z l yX10_shadowOf cX10_shadowOf 3 (some .int) (rmK 9) [.ref (mo 0), .int q, .int g] w0 (fun v w => (((if ¬ hasB (nI N) q = true then 1 else (if (g < 0 ∨ 24 ≤ g) then 1 else 0)) : Int32) = 0 ∧ v = some (.int (wallF (nI N) pH pF pT q g * stepsF g / 2)) ∧ MI Z mo 0 N u tm er dg co pP pH pF pT op f1 f2 l0 hh c0 c1 c2 c3 tb w) ∨ (∃ z, ¬ ((if ¬ hasB (nI N) q = true then 1 else (if (g < 0 ∨ 24 ≤ g) then 1 else 0)) : Int32) = 0 ∧ v = some (.int (z)) ∧ MI Z mo ((if ¬ hasB (nI N) q = true then 1 else (if (g < 0 ∨ 24 ≤ g) then 1 else 0)) : Int32) N u tm er dg co pP pH pF pT op f1 f2 l0 hh c0 c1 c2 c3 tb w)) := by
  refine MI.elim hM (fun pl tk dp lr mn kn hn va ha hg dz wh bg en od wi al tp kd fr me wo kh kf kl sh dk sk S hs e9 hkn hS4 hrow hlaw htp => ?_)
  subst e9
  have hN := hs.1
  refine (c_X10_shadowOf hN hkn).weaken (fun v w h9 => ?_)
  rcases h9 with ⟨kn2, sh2, dk2, ok2, ⟨i, ⟨⟨hi, rfl⟩, hh9⟩, rfl, rfl⟩ | ⟨hno, rfl, rfl⟩⟩
  · exact Or.inl ⟨by rw [if_neg (fun z => z (hasB_nI hi hN)), if_neg hh9], congrArg (fun z => some (Value.int z)) (by rw [tl_wallF hi hN hs.2.2.2.2.1 hh9, sp_st hh9]), MI.mk pl tk dp lr mn kn2 hn va ha hg dz wh bg en od wi al tp kd fr me wo kh kf kl sh2 dk2 sk S hs rfl ok2 hS4 hrow hlaw htp⟩
  · by_cases hq : hasB (nI N) q = true
    · have hc : ((if ¬ hasB (nI N) q = true then 1 else (if (g < 0 ∨ 24 ≤ g) then 1 else 0)) : Int32) = 1 := by rw [if_neg (fun z => z hq), if_pos (Classical.byContradiction (fun z => by obtain ⟨i, hi, e⟩ := hasB_ex hN hq; exact hno ⟨i, ⟨hi, e⟩, z⟩))]
      refine Or.inr ⟨0, by rw [hc]; decide, rfl, ?_⟩
      rw [hc]
      exact MI.mk pl tk dp lr mn kn2 hn va ha hg dz wh bg en od wi al tp kd fr me wo kh kf kl sh2 dk2 sk S hs rfl ok2 hS4 hrow hlaw htp
    · have hc : ((if ¬ hasB (nI N) q = true then 1 else (if (g < 0 ∨ 24 ≤ g) then 1 else 0)) : Int32) = 1 := by rw [if_pos hq]
      refine Or.inr ⟨0, by rw [hc]; decide, rfl, ?_⟩
      rw [hc]
      exact MI.mk pl tk dp lr mn kn2 hn va ha hg dz wh bg en od wi al tp kd fr me wo kh kf kl sh2 dk2 sk S hs rfl ok2 hS4 hrow hlaw htp
theorem n_X10_isInTheDark {Z : GZ} {l : Launch} {mo : Nat → Nat} {th : Int32} {N u tm : Nat} {er dg co : Int32} {pP pH pF pT op f1 f2 l0 tb : Nat → Int32} {hh c0 c1 c2 c3 : Nat → Nat} {q : Int32} {g : Int32} {w0 : va_W} (hM : MI Z mo th N u tm er dg co pP pH pF pT op f1 f2 l0 hh c0 c1 c2 c3 tb w0) : Ct Z l yX10_isInTheDark cX10_isInTheDark 3 (some .boolean) (rmK 9) [.ref (mo 0), .int q, .int g] w0 (fun v w => (((if ¬ hasB (nI N) q = true then 1 else (if (g < 0 ∨ 24 ≤ g) then 1 else 0)) : Int32) = 0 ∧ v = some (.int (b2i (hhX (stAt (nI N) q (dkG N pP pH pF pT) 0) g))) ∧ MI Z mo 0 N u tm er dg co pP pH pF pT op f1 f2 l0 hh c0 c1 c2 c3 tb w) ∨ (∃ z, ¬ ((if ¬ hasB (nI N) q = true then 1 else (if (g < 0 ∨ 24 ≤ g) then 1 else 0)) : Int32) = 0 ∧ v = some (.int (b2i (z))) ∧ MI Z mo ((if ¬ hasB (nI N) q = true then 1 else (if (g < 0 ∨ 24 ≤ g) then 1 else 0)) : Int32) N u tm er dg co pP pH pF pT op f1 f2 l0 hh c0 c1 c2 c3 tb w)) := by
  refine MI.elim hM (fun pl tk dp lr mn kn hn va ha hg dz wh bg en od wi al tp kd fr me wo kh kf kl sh dk sk S hs e9 hkn hS4 hrow hlaw htp => ?_)
  subst e9
  have hN := hs.1
  refine (c_X10_isInTheDark hN hkn).weaken (fun v w h9 => ?_)
  rcases h9 with ⟨kn2, sh2, dk2, ok2, ⟨i, ⟨⟨hi, rfl⟩, hh9⟩, rfl, rfl⟩ | ⟨hno, rfl, rfl⟩⟩
  · exact Or.inl ⟨by rw [if_neg (fun z => z (hasB_nI hi hN)), if_neg hh9], congrArg (fun z => some (Value.int (b2i z))) (by rw [stAt_nI hi hN, hh_d, dk_eq hs.2.2.2.1 hs.2.2.2.2.1 hi]), MI.mk pl tk dp lr mn kn2 hn va ha hg dz wh bg en od wi al tp kd fr me wo kh kf kl sh2 dk2 sk S hs rfl ok2 hS4 hrow hlaw htp⟩
  · by_cases hq : hasB (nI N) q = true
    · have hc : ((if ¬ hasB (nI N) q = true then 1 else (if (g < 0 ∨ 24 ≤ g) then 1 else 0)) : Int32) = 1 := by rw [if_neg (fun z => z hq), if_pos (Classical.byContradiction (fun z => by obtain ⟨i, hi, e⟩ := hasB_ex hN hq; exact hno ⟨i, ⟨hi, e⟩, z⟩))]
      refine Or.inr ⟨false, by rw [hc]; decide, rfl, ?_⟩
      rw [hc]
      exact MI.mk pl tk dp lr mn kn2 hn va ha hg dz wh bg en od wi al tp kd fr me wo kh kf kl sh2 dk2 sk S hs rfl ok2 hS4 hrow hlaw htp
    · have hc : ((if ¬ hasB (nI N) q = true then 1 else (if (g < 0 ∨ 24 ≤ g) then 1 else 0)) : Int32) = 1 := by rw [if_pos hq]
      refine Or.inr ⟨false, by rw [hc]; decide, rfl, ?_⟩
      rw [hc]
      exact MI.mk pl tk dp lr mn kn2 hn va ha hg dz wh bg en od wi al tp kd fr me wo kh kf kl sh2 dk2 sk S hs rfl ok2 hS4 hrow hlaw htp
theorem n_X10_shades {Z : GZ} {l : Launch} {mo : Nat → Nat} {th : Int32} {N u tm : Nat} {er dg co : Int32} {pP pH pF pT op f1 f2 l0 tb : Nat → Int32} {hh c0 c1 c2 c3 : Nat → Nat} {q : Int32} {g : Int32} {h_ : Int32} {w0 : va_W} (hM : MI Z mo th N u tm er dg co pP pH pF pT op f1 f2 l0 hh c0 c1 c2 c3 tb w0) : Ct Z l yX10_shades cX10_shades 4 (some .boolean) (rmK 9) [.ref (mo 0), .int q, .int g, .int h_] w0 (fun v w => (((if ¬ hasB (nI N) q = true then 1 else (if ¬ hasB (nI N) g = true then 1 else (if (h_ < 0 ∨ 24 ≤ h_) then 1 else 0))) : Int32) = 0 ∧ v = some (.int (b2i (hhX (shX N pP pH pF pT g q) h_))) ∧ MI Z mo 0 N u tm er dg co pP pH pF pT op f1 f2 l0 hh c0 c1 c2 c3 tb w) ∨ (∃ z, ¬ ((if ¬ hasB (nI N) q = true then 1 else (if ¬ hasB (nI N) g = true then 1 else (if (h_ < 0 ∨ 24 ≤ h_) then 1 else 0))) : Int32) = 0 ∧ v = some (.int (b2i (z))) ∧ MI Z mo ((if ¬ hasB (nI N) q = true then 1 else (if ¬ hasB (nI N) g = true then 1 else (if (h_ < 0 ∨ 24 ≤ h_) then 1 else 0))) : Int32) N u tm er dg co pP pH pF pT op f1 f2 l0 hh c0 c1 c2 c3 tb w)) := by
  refine MI.elim hM (fun pl tk dp lr mn kn hn va ha hg dz wh bg en od wi al tp kd fr me wo kh kf kl sh dk sk S hs e9 hkn hS4 hrow hlaw htp => ?_)
  subst e9
  have hN := hs.1
  refine (c_X10_shades hN hkn).weaken (fun v w h9 => ?_)
  rcases h9 with ⟨kn2, sh2, dk2, ok2, ⟨i, i2, ⟨⟨hi, rfl⟩, ⟨hi2, rfl⟩, hh9⟩, rfl, rfl⟩ | ⟨hno, rfl, rfl⟩⟩
  · exact Or.inl ⟨by rw [if_neg (fun z => z (hasB_nI hi hN)), if_neg (fun z => z (hasB_nI hi2 hN)), if_neg hh9], congrArg (fun z => some (Value.int (b2i z))) (by rw [shX_nI hi2 hi hN, hh_d, lk_eq hs.2.2.2.1 hs.2.2.2.2.1 hi2 hi]), MI.mk pl tk dp lr mn kn2 hn va ha hg dz wh bg en od wi al tp kd fr me wo kh kf kl sh2 dk2 sk S hs rfl ok2 hS4 hrow hlaw htp⟩
  · by_cases hq : hasB (nI N) q = true
    · by_cases hG : hasB (nI N) g = true
      · have hc : ((if ¬ hasB (nI N) q = true then 1 else (if ¬ hasB (nI N) g = true then 1 else (if (h_ < 0 ∨ 24 ≤ h_) then 1 else 0))) : Int32) = 1 := by rw [if_neg (fun z => z hq), if_neg (fun z => z hG), if_pos (Classical.byContradiction (fun z => by obtain ⟨i, hi, e⟩ := hasB_ex hN hq; obtain ⟨j, hj, e2⟩ := hasB_ex hN hG; exact hno ⟨i, j, ⟨hi, e⟩, ⟨hj, e2⟩, z⟩))]
        refine Or.inr ⟨false, by rw [hc]; decide, rfl, ?_⟩
        rw [hc]
        exact MI.mk pl tk dp lr mn kn2 hn va ha hg dz wh bg en od wi al tp kd fr me wo kh kf kl sh2 dk2 sk S hs rfl ok2 hS4 hrow hlaw htp
      · have hc : ((if ¬ hasB (nI N) q = true then 1 else (if ¬ hasB (nI N) g = true then 1 else (if (h_ < 0 ∨ 24 ≤ h_) then 1 else 0))) : Int32) = 1 := by rw [if_neg (fun z => z hq), if_pos hG]
        refine Or.inr ⟨false, by rw [hc]; decide, rfl, ?_⟩
        rw [hc]
        exact MI.mk pl tk dp lr mn kn2 hn va ha hg dz wh bg en od wi al tp kd fr me wo kh kf kl sh2 dk2 sk S hs rfl ok2 hS4 hrow hlaw htp
    · have hc : ((if ¬ hasB (nI N) q = true then 1 else (if ¬ hasB (nI N) g = true then 1 else (if (h_ < 0 ∨ 24 ≤ h_) then 1 else 0))) : Int32) = 1 := by rw [if_pos hq]
      refine Or.inr ⟨false, by rw [hc]; decide, rfl, ?_⟩
      rw [hc]
      exact MI.mk pl tk dp lr mn kn2 hn va ha hg dz wh bg en od wi al tp kd fr me wo kh kf kl sh2 dk2 sk S hs rfl ok2 hS4 hrow hlaw htp
theorem n_X10_housesInTheDark {Z : GZ} {l : Launch} {mo : Nat → Nat} {th : Int32} {N u tm : Nat} {er dg co : Int32} {pP pH pF pT op f1 f2 l0 tb : Nat → Int32} {hh c0 c1 c2 c3 : Nat → Nat} {q : Int32} {w0 : va_W} (hM : MI Z mo th N u tm er dg co pP pH pF pT op f1 f2 l0 hh c0 c1 c2 c3 tb w0) : Ct Z l yX10_housesInTheDark cX10_housesInTheDark 2 (some .int) (rmK 9) [.ref (mo 0), .int q] w0 (fun v w => (((if (q < 0 ∨ 24 ≤ q) then 1 else 0) : Int32) = 0 ∧ v = some (.int (nI (cntN (dkB N (dkG N pP pH pF pT) q) N))) ∧ MI Z mo 0 N u tm er dg co pP pH pF pT op f1 f2 l0 hh c0 c1 c2 c3 tb w) ∨ (∃ z, ¬ ((if (q < 0 ∨ 24 ≤ q) then 1 else 0) : Int32) = 0 ∧ v = some (.int (z)) ∧ MI Z mo ((if (q < 0 ∨ 24 ≤ q) then 1 else 0) : Int32) N u tm er dg co pP pH pF pT op f1 f2 l0 hh c0 c1 c2 c3 tb w)) := by
  refine MI.elim hM (fun pl tk dp lr mn kn hn va ha hg dz wh bg en od wi al tp kd fr me wo kh kf kl sh dk sk S hs e9 hkn hS4 hrow hlaw htp => ?_)
  subst e9
  have hN := hs.1
  refine (c_X10_housesInTheDark hN hkn).weaken (fun v w h9 => ?_)
  rcases h9 with ⟨kn2, sh2, dk2, ok2, ⟨hh9, rfl, rfl⟩ | ⟨hno, rfl, rfl⟩⟩
  · exact Or.inl ⟨by rw [if_neg hh9], congrArg (fun z => some (Value.int z)) (in_cnt hN hs.2.2.2.1 hs.2.2.2.2.1), MI.mk pl tk dp lr mn kn2 hn va ha hg dz wh bg en od wi al tp kd fr me wo kh kf kl sh2 dk2 sk S hs rfl ok2 hS4 hrow hlaw htp⟩
  · have hc : ((if (q < 0 ∨ 24 ≤ q) then 1 else 0) : Int32) = 1 := by rw [if_pos (Classical.not_not.mp hno)]
    refine Or.inr ⟨0, by rw [hc]; decide, rfl, ?_⟩
    rw [hc]
    exact MI.mk pl tk dp lr mn kn2 hn va ha hg dz wh bg en od wi al tp kd fr me wo kh kf kl sh2 dk2 sk S hs rfl ok2 hS4 hrow hlaw htp
theorem n_X10_worstHouse {Z : GZ} {l : Launch} {mo : Nat → Nat} {th : Int32} {N u tm : Nat} {er dg co : Int32} {pP pH pF pT op f1 f2 l0 tb : Nat → Int32} {hh c0 c1 c2 c3 : Nat → Nat} {w0 : va_W} (hM : MI Z mo th N u tm er dg co pP pH pF pT op f1 f2 l0 hh c0 c1 c2 c3 tb w0) : Ct Z l yX10_worstHouse cX10_worstHouse 1 (some .int) (rmK 9) [.ref (mo 0)] w0 (fun v w => (((if nI N = 0 then 1 else 0) : Int32) = 0 ∧ v = some (.int (nI (amx (lsI N (dkG N pP pH pF pT)) N))) ∧ MI Z mo 0 N u tm er dg co pP pH pF pT op f1 f2 l0 hh c0 c1 c2 c3 tb w) ∨ (∃ z, ¬ ((if nI N = 0 then 1 else 0) : Int32) = 0 ∧ v = some (.int (z)) ∧ MI Z mo ((if nI N = 0 then 1 else 0) : Int32) N u tm er dg co pP pH pF pT op f1 f2 l0 hh c0 c1 c2 c3 tb w)) := by
  refine MI.elim hM (fun pl tk dp lr mn kn hn va ha hg dz wh bg en od wi al tp kd fr me wo kh kf kl sh dk sk S hs e9 hkn hS4 hrow hlaw htp => ?_)
  subst e9
  have hN := hs.1
  refine (c_X10_worstHouse hN hkn).weaken (fun v w h9 => ?_)
  rcases h9 with ⟨h0, rfl, rfl⟩ | ⟨kn2, sh2, dk2, h0, rfl, rfl, ok2⟩
  · have hc : ((if nI N = 0 then 1 else 0) : Int32) = 1 := by rw [if_pos (show nI N = 0 from congrArg nI h0)]
    refine Or.inr ⟨0, by rw [hc]; decide, rfl, ?_⟩
    rw [hc]
    exact MI.mk pl tk dp lr mn kn hn va ha hg dz wh bg en od wi al tp kd fr me wo kh kf kl sh dk sk S hs rfl hkn hS4 hrow hlaw htp
  · exact Or.inl ⟨by rw [if_neg (show ¬ nI N = 0 from fun z => h0 ((nI_eq (a := N) (b := 0) (by omega) (by decide)).mp z))], congrArg (fun z => some (Value.int z)) (congrArg nI (lsI_ls hN hs.2.2.2.1 hs.2.2.2.2.1)), MI.mk pl tk dp lr mn kn2 hn va ha hg dz wh bg en od wi al tp kd fr me wo kh kf kl sh2 dk2 sk S hs rfl ok2 hS4 hrow hlaw htp⟩
theorem n_X10_darkestWall {Z : GZ} {l : Launch} {mo : Nat → Nat} {th : Int32} {N u tm : Nat} {er dg co : Int32} {pP pH pF pT op f1 f2 l0 tb : Nat → Int32} {hh c0 c1 c2 c3 : Nat → Nat} {w0 : va_W} (hM : MI Z mo th N u tm er dg co pP pH pF pT op f1 f2 l0 hh c0 c1 c2 c3 tb w0) : Ct Z l yX10_darkestWall cX10_darkestWall 3 (some .int) (rmK 9) [.ref (mo 0)] w0 (fun v w => (((if nI N = 0 then 1 else 0) : Int32) = 0 ∧ v = some (.int (nI (amx (csI N (csG N pP pH pF pT)) N))) ∧ MI Z mo 0 N u tm er dg co pP pH pF pT op f1 f2 l0 hh c0 c1 c2 c3 tb w) ∨ (∃ z, ¬ ((if nI N = 0 then 1 else 0) : Int32) = 0 ∧ v = some (.int (z)) ∧ MI Z mo ((if nI N = 0 then 1 else 0) : Int32) N u tm er dg co pP pH pF pT op f1 f2 l0 hh c0 c1 c2 c3 tb w)) := by
  refine MI.elim hM (fun pl tk dp lr mn kn hn va ha hg dz wh bg en od wi al tp kd fr me wo kh kf kl sh dk sk S hs e9 hkn hS4 hrow hlaw htp => ?_)
  subst e9
  have hN := hs.1
  refine (c_X10_darkestWall hN hkn).weaken (fun v w h9 => ?_)
  rcases h9 with ⟨h0, rfl, rfl⟩ | ⟨kn2, sh2, dk2, h0, rfl, rfl, ok2⟩
  · have hc : ((if nI N = 0 then 1 else 0) : Int32) = 1 := by rw [if_pos (show nI N = 0 from congrArg nI h0)]
    refine Or.inr ⟨0, by rw [hc]; decide, rfl, ?_⟩
    rw [hc]
    exact MI.mk pl tk dp lr mn kn hn va ha hg dz wh bg en od wi al tp kd fr me wo kh kf kl sh dk sk S hs rfl hkn hS4 hrow hlaw htp
  · exact Or.inl ⟨by rw [if_neg (show ¬ nI N = 0 from fun z => h0 ((nI_eq (a := N) (b := 0) (by omega) (by decide)).mp z))], congrArg (fun z => some (Value.int z)) (congrArg nI (csI_ct hN hs.2.2.2.1 hs.2.2.2.2.1)), MI.mk pl tk dp lr mn kn2 hn va ha hg dz wh bg en od wi al tp kd fr me wo kh kf kl sh2 dk2 sk S hs rfl ok2 hS4 hrow hlaw htp⟩
theorem n_X10_curfewFrom {Z : GZ} {l : Launch} {mo : Nat → Nat} {th : Int32} {N u tm : Nat} {er dg co : Int32} {pP pH pF pT op f1 f2 l0 tb : Nat → Int32} {hh c0 c1 c2 c3 : Nat → Nat} {q : Int32} {w0 : va_W} (hM : MI Z mo th N u tm er dg co pP pH pF pT op f1 f2 l0 hh c0 c1 c2 c3 tb w0) : Ct Z l yX10_curfewFrom cX10_curfewFrom 2 (some .int) (rmK 3) [.ref (mo 0), .int q] w0 (fun v w => (((if ¬ hasB (nI N) q = true then 1 else (if stAt (nI N) q pF (-1) = -1 then 2 else 0)) : Int32) = 0 ∧ v = some (.int (stAt (nI N) q pF (-1))) ∧ MI Z mo 0 N u tm er dg co pP pH pF pT op f1 f2 l0 hh c0 c1 c2 c3 tb w) ∨ (∃ z, ¬ ((if ¬ hasB (nI N) q = true then 1 else (if stAt (nI N) q pF (-1) = -1 then 2 else 0)) : Int32) = 0 ∧ v = some (.int (z)) ∧ MI Z mo ((if ¬ hasB (nI N) q = true then 1 else (if stAt (nI N) q pF (-1) = -1 then 2 else 0)) : Int32) N u tm er dg co pP pH pF pT op f1 f2 l0 hh c0 c1 c2 c3 tb w)) := by
  refine MI.elim hM (fun pl tk dp lr mn kn hn va ha hg dz wh bg en od wi al tp kd fr me wo kh kf kl sh dk sk S hs e9 hkn hS4 hrow hlaw htp => ?_)
  subst e9
  have hN := hs.1
  refine (c_X10_curfewFrom hN hkn).weaken (fun v w h9 => ?_)
  rcases h9 with ⟨hno, rfl, rfl⟩ | ⟨i, hi, rfl, h1, rfl, rfl⟩ | ⟨i, hi, rfl, h1, rfl, rfl⟩
  · have hc : ((if ¬ hasB (nI N) q = true then 1 else (if stAt (nI N) q pF (-1) = -1 then 2 else 0)) : Int32) = 1 := by rw [if_pos (fun z => hno (hasB_ex hN z))]
    refine Or.inr ⟨0, by rw [hc]; decide, rfl, ?_⟩
    rw [hc]
    exact MI.mk pl tk dp lr mn kn hn va ha hg dz wh bg en od wi al tp kd fr me wo kh kf kl sh dk sk S hs rfl hkn hS4 hrow hlaw htp
  · have hc : ((if ¬ hasB (nI N) (nI i) = true then 1 else (if stAt (nI N) (nI i) pF (-1) = -1 then 2 else 0)) : Int32) = 2 := by rw [if_neg (fun z => z (hasB_nI hi hN)), if_pos ((stAt_nI hi hN pF (-1)).trans h1)]
    refine Or.inr ⟨0, by rw [hc]; decide, rfl, ?_⟩
    rw [hc]
    exact MI.mk pl tk dp lr mn kn hn va ha hg dz wh bg en od wi al tp kd fr me wo kh kf kl sh dk sk S hs rfl hkn hS4 hrow hlaw htp
  · exact Or.inl ⟨by rw [if_neg (fun z => z (hasB_nI hi hN)), if_neg (fun z => h1 ((stAt_nI hi hN pF (-1)).symm.trans z))], congrArg (fun z => some (Value.int z)) ((stAt_nI hi hN pF (-1)).symm), MI.mk pl tk dp lr mn kn hn va ha hg dz wh bg en od wi al tp kd fr me wo kh kf kl sh dk sk S hs rfl hkn hS4 hrow hlaw htp⟩
theorem n_X10_curfewTo {Z : GZ} {l : Launch} {mo : Nat → Nat} {th : Int32} {N u tm : Nat} {er dg co : Int32} {pP pH pF pT op f1 f2 l0 tb : Nat → Int32} {hh c0 c1 c2 c3 : Nat → Nat} {q : Int32} {w0 : va_W} (hM : MI Z mo th N u tm er dg co pP pH pF pT op f1 f2 l0 hh c0 c1 c2 c3 tb w0) : Ct Z l yX10_curfewTo cX10_curfewTo 2 (some .int) (rmK 3) [.ref (mo 0), .int q] w0 (fun v w => (((if ¬ hasB (nI N) q = true then 1 else (if stAt (nI N) q pF (-1) = -1 then 2 else 0)) : Int32) = 0 ∧ v = some (.int (stAt (nI N) q pT (-1))) ∧ MI Z mo 0 N u tm er dg co pP pH pF pT op f1 f2 l0 hh c0 c1 c2 c3 tb w) ∨ (∃ z, ¬ ((if ¬ hasB (nI N) q = true then 1 else (if stAt (nI N) q pF (-1) = -1 then 2 else 0)) : Int32) = 0 ∧ v = some (.int (z)) ∧ MI Z mo ((if ¬ hasB (nI N) q = true then 1 else (if stAt (nI N) q pF (-1) = -1 then 2 else 0)) : Int32) N u tm er dg co pP pH pF pT op f1 f2 l0 hh c0 c1 c2 c3 tb w)) := by
  refine MI.elim hM (fun pl tk dp lr mn kn hn va ha hg dz wh bg en od wi al tp kd fr me wo kh kf kl sh dk sk S hs e9 hkn hS4 hrow hlaw htp => ?_)
  subst e9
  have hN := hs.1
  refine (c_X10_curfewTo hN hkn).weaken (fun v w h9 => ?_)
  rcases h9 with ⟨hno, rfl, rfl⟩ | ⟨i, hi, rfl, h1, rfl, rfl⟩ | ⟨i, hi, rfl, h1, rfl, rfl⟩
  · have hc : ((if ¬ hasB (nI N) q = true then 1 else (if stAt (nI N) q pF (-1) = -1 then 2 else 0)) : Int32) = 1 := by rw [if_pos (fun z => hno (hasB_ex hN z))]
    refine Or.inr ⟨0, by rw [hc]; decide, rfl, ?_⟩
    rw [hc]
    exact MI.mk pl tk dp lr mn kn hn va ha hg dz wh bg en od wi al tp kd fr me wo kh kf kl sh dk sk S hs rfl hkn hS4 hrow hlaw htp
  · have hc : ((if ¬ hasB (nI N) (nI i) = true then 1 else (if stAt (nI N) (nI i) pF (-1) = -1 then 2 else 0)) : Int32) = 2 := by rw [if_neg (fun z => z (hasB_nI hi hN)), if_pos ((stAt_nI hi hN pF (-1)).trans h1)]
    refine Or.inr ⟨0, by rw [hc]; decide, rfl, ?_⟩
    rw [hc]
    exact MI.mk pl tk dp lr mn kn hn va ha hg dz wh bg en od wi al tp kd fr me wo kh kf kl sh dk sk S hs rfl hkn hS4 hrow hlaw htp
  · exact Or.inl ⟨by rw [if_neg (fun z => z (hasB_nI hi hN)), if_neg (fun z => h1 ((stAt_nI hi hN pF (-1)).symm.trans z))], congrArg (fun z => some (Value.int z)) ((stAt_nI hi hN pT (-1)).symm), MI.mk pl tk dp lr mn kn hn va ha hg dz wh bg en od wi al tp kd fr me wo kh kf kl sh dk sk S hs rfl hkn hS4 hrow hlaw htp⟩
theorem n_X10_setCurfew {Z : GZ} {l : Launch} {mo : Nat → Nat} {th : Int32} {N u tm : Nat} {er dg co : Int32} {pP pH pF pT op f1 f2 l0 tb : Nat → Int32} {hh c0 c1 c2 c3 : Nat → Nat} {q : Int32} {fr_ : Int32} {to_ : Int32} {w0 : va_W} (hM : MI Z mo th N u tm er dg co pP pH pF pT op f1 f2 l0 hh c0 c1 c2 c3 tb w0) : Ct Z l yX10_setCurfew cX10_setCurfew 4 (some .int) (rmK 9) [.ref (mo 0), .int q, .int fr_, .int to_] w0 (fun v w => (((if ¬ hasB (nI N) q = true then 1 else (if (fr_ < 6 ∨ 18 < to_ ∨ to_ < fr_) then 2 else 0)) : Int32) = 0 ∧ v = some (.int (laG N pP pH (upd pF q.toNatClampNeg fr_) (upd pT q.toNatClampNeg to_))) ∧ MI Z mo 0 N u tm er dg co pP pH (upd pF q.toNatClampNeg fr_) (upd pT q.toNatClampNeg to_) op f1 f2 l0 hh c0 c1 c2 c3 tb w) ∨ (∃ z, ¬ ((if ¬ hasB (nI N) q = true then 1 else (if (fr_ < 6 ∨ 18 < to_ ∨ to_ < fr_) then 2 else 0)) : Int32) = 0 ∧ v = some (.int (z)) ∧ MI Z mo ((if ¬ hasB (nI N) q = true then 1 else (if (fr_ < 6 ∨ 18 < to_ ∨ to_ < fr_) then 2 else 0)) : Int32) N u tm er dg co pP pH pF pT op f1 f2 l0 hh c0 c1 c2 c3 tb w)) := by
  refine MI.elim hM (fun pl tk dp lr mn kn hn va ha hg dz wh bg en od wi al tp kd fr me wo kh kf kl sh dk sk S hs e9 hkn hS4 hrow hlaw htp => ?_)
  subst e9
  have hN := hs.1
  refine (c_X10_setCurfew hN hkn).weaken (fun v w h9 => ?_)
  rcases h9 with ⟨hno, rfl, rfl⟩ | ⟨⟨i, hi, rfl⟩, hb, rfl, rfl⟩ | ⟨i, kn2, sh2, dk2, hi, rfl, hb, rfl, rfl, ok2⟩
  · have hc : ((if ¬ hasB (nI N) q = true then 1 else (if (fr_ < 6 ∨ 18 < to_ ∨ to_ < fr_) then 2 else 0)) : Int32) = 1 := by rw [if_pos (fun z => hno (hasB_ex hN z))]
    refine Or.inr ⟨0, by rw [hc]; decide, rfl, ?_⟩
    rw [hc]
    exact MI.mk pl tk dp lr mn kn hn va ha hg dz wh bg en od wi al tp kd fr me wo kh kf kl sh dk sk S hs rfl hkn hS4 hrow hlaw htp
  · have hc : ((if ¬ hasB (nI N) (nI i) = true then 1 else (if (fr_ < 6 ∨ 18 < to_ ∨ to_ < fr_) then 2 else 0)) : Int32) = 2 := by rw [if_neg (fun z => z (hasB_nI hi hN)), if_pos hb]
    refine Or.inr ⟨0, by rw [hc]; decide, rfl, ?_⟩
    rw [hc]
    exact MI.mk pl tk dp lr mn kn hn va ha hg dz wh bg en od wi al tp kd fr me wo kh kf kl sh dk sk S hs rfl hkn hS4 hrow hlaw htp
  · have ei : (nI i).toNatClampNeg = i := nI_clamp (by omega)
    rw [ei]
    exact Or.inl ⟨by rw [if_neg (fun z => z (hasB_nI hi hN)), if_neg hb], congrArg (fun z => some (Value.int z)) (al_eq hs.2.2.2.1 (hs.2.2.2.2.1.up (fun e => cu_ne hb e))), MI.mk pl tk dp lr mn kn2 hn va ha hg dz wh bg en od wi al tp kd fr me wo kh kf kl sh2 dk2 sk S ⟨hN, hs.2.1, hs.2.2.1, hs.2.2.2.1, hs.2.2.2.2.1.up (fun e => cu_ne hb e), hs.2.2.2.2.2⟩ rfl ok2 hS4 hrow hlaw htp⟩
theorem n_X10_endCurfew {Z : GZ} {l : Launch} {mo : Nat → Nat} {th : Int32} {N u tm : Nat} {er dg co : Int32} {pP pH pF pT op f1 f2 l0 tb : Nat → Int32} {hh c0 c1 c2 c3 : Nat → Nat} {q : Int32} {w0 : va_W} (hM : MI Z mo th N u tm er dg co pP pH pF pT op f1 f2 l0 hh c0 c1 c2 c3 tb w0) : Ct Z l yX10_endCurfew cX10_endCurfew 2 (some .int) (rmK 9) [.ref (mo 0), .int q] w0 (fun v w => (((if ¬ hasB (nI N) q = true then 1 else (if stAt (nI N) q pF (-1) = -1 then 2 else 0)) : Int32) = 0 ∧ v = some (.int (laG N pP pH (upd pF q.toNatClampNeg (-1)) (upd pT q.toNatClampNeg (-1)))) ∧ MI Z mo 0 N u tm er dg co pP pH (upd pF q.toNatClampNeg (-1)) (upd pT q.toNatClampNeg (-1)) op f1 f2 l0 hh c0 c1 c2 c3 tb w) ∨ (∃ z, ¬ ((if ¬ hasB (nI N) q = true then 1 else (if stAt (nI N) q pF (-1) = -1 then 2 else 0)) : Int32) = 0 ∧ v = some (.int (z)) ∧ MI Z mo ((if ¬ hasB (nI N) q = true then 1 else (if stAt (nI N) q pF (-1) = -1 then 2 else 0)) : Int32) N u tm er dg co pP pH pF pT op f1 f2 l0 hh c0 c1 c2 c3 tb w)) := by
  refine MI.elim hM (fun pl tk dp lr mn kn hn va ha hg dz wh bg en od wi al tp kd fr me wo kh kf kl sh dk sk S hs e9 hkn hS4 hrow hlaw htp => ?_)
  subst e9
  have hN := hs.1
  refine (c_X10_endCurfew hN hkn).weaken (fun v w h9 => ?_)
  rcases h9 with ⟨hno, rfl, rfl⟩ | ⟨i, hi, rfl, h1, rfl, rfl⟩ | ⟨i, kn2, sh2, dk2, hi, rfl, h1, rfl, rfl, ok2⟩
  · have hc : ((if ¬ hasB (nI N) q = true then 1 else (if stAt (nI N) q pF (-1) = -1 then 2 else 0)) : Int32) = 1 := by rw [if_pos (fun z => hno (hasB_ex hN z))]
    refine Or.inr ⟨0, by rw [hc]; decide, rfl, ?_⟩
    rw [hc]
    exact MI.mk pl tk dp lr mn kn hn va ha hg dz wh bg en od wi al tp kd fr me wo kh kf kl sh dk sk S hs rfl hkn hS4 hrow hlaw htp
  · have hc : ((if ¬ hasB (nI N) (nI i) = true then 1 else (if stAt (nI N) (nI i) pF (-1) = -1 then 2 else 0)) : Int32) = 2 := by rw [if_neg (fun z => z (hasB_nI hi hN)), if_pos ((stAt_nI hi hN pF (-1)).trans h1)]
    refine Or.inr ⟨0, by rw [hc]; decide, rfl, ?_⟩
    rw [hc]
    exact MI.mk pl tk dp lr mn kn hn va ha hg dz wh bg en od wi al tp kd fr me wo kh kf kl sh dk sk S hs rfl hkn hS4 hrow hlaw htp
  · have ei : (nI i).toNatClampNeg = i := nI_clamp (by omega)
    rw [ei]
    exact Or.inl ⟨by rw [if_neg (fun z => z (hasB_nI hi hN)), if_neg (fun z => h1 ((stAt_nI hi hN pF (-1)).symm.trans z))], congrArg (fun z => some (Value.int z)) (al_eq hs.2.2.2.1 (hs.2.2.2.2.1.up (fun _ => rfl))), MI.mk pl tk dp lr mn kn2 hn va ha hg dz wh bg en od wi al tp kd fr me wo kh kf kl sh2 dk2 sk S ⟨hN, hs.2.1, hs.2.2.1, hs.2.2.2.1, hs.2.2.2.2.1.up (fun _ => rfl), hs.2.2.2.2.2⟩ rfl ok2 hS4 hrow hlaw htp⟩
theorem n_X10_build {Z : GZ} {l : Launch} {mo : Nat → Nat} {th : Int32} {N u tm : Nat} {er dg co : Int32} {pP pH pF pT op f1 f2 l0 tb : Nat → Int32} {hh c0 c1 c2 c3 : Nat → Nat} {q : Int32} {x_ : Int32} {w0 : va_W} (hM : MI Z mo th N u tm er dg co pP pH pF pT op f1 f2 l0 hh c0 c1 c2 c3 tb w0) : Ct Z l yX10_build cX10_build 4 (some .int) (rmK 9) [.ref (mo 0), .int q, .int x_] w0 (fun v w => (((if ¬ hasB (nI N) q = true then 1 else (if (x_ < 0 ∨ 30 < x_) then 2 else 0)) : Int32) = 0 ∧ v = some (.int (stAt (nI N) q pH 0)) ∧ MI Z mo 0 N u tm er dg co pP (upd pH q.toNatClampNeg x_) pF pT op f1 f2 l0 hh c0 c1 c2 c3 tb w) ∨ (∃ z, ¬ ((if ¬ hasB (nI N) q = true then 1 else (if (x_ < 0 ∨ 30 < x_) then 2 else 0)) : Int32) = 0 ∧ v = some (.int (z)) ∧ MI Z mo ((if ¬ hasB (nI N) q = true then 1 else (if (x_ < 0 ∨ 30 < x_) then 2 else 0)) : Int32) N u tm er dg co pP pH pF pT op f1 f2 l0 hh c0 c1 c2 c3 tb w)) := by
  refine MI.elim hM (fun pl tk dp lr mn kn hn va ha hg dz wh bg en od wi al tp kd fr me wo kh kf kl sh dk sk S hs e9 hkn hS4 hrow hlaw htp => ?_)
  subst e9
  have hN := hs.1
  refine (c_X10_build hN hkn).weaken (fun v w h9 => ?_)
  rcases h9 with ⟨hno, rfl, rfl⟩ | ⟨⟨i, hi, rfl⟩, hb, rfl, rfl⟩ | ⟨i, hi, rfl, hb, rfl, rfl⟩
  · have hc : ((if ¬ hasB (nI N) q = true then 1 else (if (x_ < 0 ∨ 30 < x_) then 2 else 0)) : Int32) = 1 := by rw [if_pos (fun z => hno (hasB_ex hN z))]
    refine Or.inr ⟨0, by rw [hc]; decide, rfl, ?_⟩
    rw [hc]
    exact MI.mk pl tk dp lr mn kn hn va ha hg dz wh bg en od wi al tp kd fr me wo kh kf kl sh dk sk S hs rfl hkn hS4 hrow hlaw htp
  · have hc : ((if ¬ hasB (nI N) (nI i) = true then 1 else (if (x_ < 0 ∨ 30 < x_) then 2 else 0)) : Int32) = 2 := by rw [if_neg (fun z => z (hasB_nI hi hN)), if_pos (inX_f hb)]
    refine Or.inr ⟨0, by rw [hc]; decide, rfl, ?_⟩
    rw [hc]
    exact MI.mk pl tk dp lr mn kn hn va ha hg dz wh bg en od wi al tp kd fr me wo kh kf kl sh dk sk S hs rfl hkn hS4 hrow hlaw htp
  · have ei : (nI i).toNatClampNeg = i := nI_clamp (by omega)
    rw [ei]
    exact Or.inl ⟨by rw [if_neg (fun z => z (hasB_nI hi hN)), if_neg (inX_t hb)], congrArg (fun z => some (Value.int z)) ((stAt_nI hi hN pH 0).symm), MI.mk pl tk dp lr mn false hn va ha hg dz wh bg en od wi al tp kd fr me wo kh kf kl sh dk sk S hs rfl (fun e => absurd e (by decide)) hS4 hrow hlaw htp⟩
theorem n_X10_move {Z : GZ} {l : Launch} {mo : Nat → Nat} {th : Int32} {N u tm : Nat} {er dg co : Int32} {pP pH pF pT op f1 f2 l0 tb : Nat → Int32} {hh c0 c1 c2 c3 : Nat → Nat} {q : Int32} {x_ : Int32} {w0 : va_W} (hM : MI Z mo th N u tm er dg co pP pH pF pT op f1 f2 l0 hh c0 c1 c2 c3 tb w0) : Ct Z l yX10_move cX10_move 4 (some .int) (rmK 9) [.ref (mo 0), .int q, .int x_] w0 (fun v w => (((if ¬ hasB (nI N) q = true then 1 else (if (x_ < 0 ∨ 99 < x_) then 2 else (if (∃ j, j < N ∧ ¬ nI j = q ∧ stAt (nI N) (nI j) pP (-1) = x_) then 3 else 0))) : Int32) = 0 ∧ v = some (.int (stAt (nI N) q pP (-1))) ∧ MI Z mo 0 N u tm er dg co (upd pP q.toNatClampNeg x_) pH pF pT op f1 f2 l0 hh c0 c1 c2 c3 tb w) ∨ (∃ z, ¬ ((if ¬ hasB (nI N) q = true then 1 else (if (x_ < 0 ∨ 99 < x_) then 2 else (if (∃ j, j < N ∧ ¬ nI j = q ∧ stAt (nI N) (nI j) pP (-1) = x_) then 3 else 0))) : Int32) = 0 ∧ v = some (.int (z)) ∧ MI Z mo ((if ¬ hasB (nI N) q = true then 1 else (if (x_ < 0 ∨ 99 < x_) then 2 else (if (∃ j, j < N ∧ ¬ nI j = q ∧ stAt (nI N) (nI j) pP (-1) = x_) then 3 else 0))) : Int32) N u tm er dg co pP pH pF pT op f1 f2 l0 hh c0 c1 c2 c3 tb w)) := by
  refine MI.elim hM (fun pl tk dp lr mn kn hn va ha hg dz wh bg en od wi al tp kd fr me wo kh kf kl sh dk sk S hs e9 hkn hS4 hrow hlaw htp => ?_)
  subst e9
  have hN := hs.1
  refine (c_X10_move hN hkn).weaken (fun v w h9 => ?_)
  rcases h9 with ⟨hno, rfl, rfl⟩ | ⟨⟨i, hi, rfl⟩, hb, rfl, rfl⟩ | ⟨i, hi, rfl, hb, ⟨j, hj, hji, hx⟩, rfl, rfl⟩ | ⟨i, hi, rfl, hb, hnx, rfl, rfl⟩
  · have hc : ((if ¬ hasB (nI N) q = true then 1 else (if (x_ < 0 ∨ 99 < x_) then 2 else (if (∃ j, j < N ∧ ¬ nI j = q ∧ stAt (nI N) (nI j) pP (-1) = x_) then 3 else 0))) : Int32) = 1 := by rw [if_pos (fun z => hno (hasB_ex hN z))]
    refine Or.inr ⟨0, by rw [hc]; decide, rfl, ?_⟩
    rw [hc]
    exact MI.mk pl tk dp lr mn kn hn va ha hg dz wh bg en od wi al tp kd fr me wo kh kf kl sh dk sk S hs rfl hkn hS4 hrow hlaw htp
  · have hc : ((if ¬ hasB (nI N) (nI i) = true then 1 else (if (x_ < 0 ∨ 99 < x_) then 2 else (if (∃ j, j < N ∧ ¬ nI j = (nI i) ∧ stAt (nI N) (nI j) pP (-1) = x_) then 3 else 0))) : Int32) = 2 := by rw [if_neg (fun z => z (hasB_nI hi hN)), if_pos (inX_f hb)]
    refine Or.inr ⟨0, by rw [hc]; decide, rfl, ?_⟩
    rw [hc]
    exact MI.mk pl tk dp lr mn kn hn va ha hg dz wh bg en od wi al tp kd fr me wo kh kf kl sh dk sk S hs rfl hkn hS4 hrow hlaw htp
  · have hc : ((if ¬ hasB (nI N) (nI i) = true then 1 else (if (x_ < 0 ∨ 99 < x_) then 2 else (if (∃ j, j < N ∧ ¬ nI j = (nI i) ∧ stAt (nI N) (nI j) pP (-1) = x_) then 3 else 0))) : Int32) = 3 := by rw [if_neg (fun z => z (hasB_nI hi hN)), if_neg (inX_t hb), if_pos ⟨j, hj, fun e => hji ((nI_eq (a := j) (b := i) (by omega) (by omega)).mp e), (stAt_nI hj hN pP (-1)).trans hx⟩]
    refine Or.inr ⟨0, by rw [hc]; decide, rfl, ?_⟩
    rw [hc]
    exact MI.mk pl tk dp lr mn kn hn va ha hg dz wh bg en od wi al tp kd fr me wo kh kf kl sh dk sk S hs rfl hkn hS4 hrow hlaw htp
  · have ei : (nI i).toNatClampNeg = i := nI_clamp (by omega)
    rw [ei]
    exact Or.inl ⟨by rw [if_neg (fun z => z (hasB_nI hi hN)), if_neg (inX_t hb), if_neg (fun ⟨j, hj, hji, hx⟩ => hnx ⟨j, hj, fun e => hji (by rw [e]), (stAt_nI hj hN pP (-1)).symm.trans hx⟩)], congrArg (fun z => some (Value.int z)) ((stAt_nI hi hN pP (-1)).symm), MI.mk pl tk dp lr mn false hn va ha hg dz wh bg en od wi al tp kd fr me wo kh kf kl sh dk sk S ⟨hN, hs.2.1, hs.2.2.1, hs.2.2.2.1.up (inX_t hb), hs.2.2.2.2.1, hs.2.2.2.2.2⟩ rfl (fun e => absurd e (by decide)) hS4 hrow hlaw htp⟩
theorem n_X10_passDays {Z : GZ} {l : Launch} {mo : Nat → Nat} {th : Int32} {N u tm : Nat} {er dg co : Int32} {pP pH pF pT op f1 f2 l0 tb : Nat → Int32} {hh c0 c1 c2 c3 : Nat → Nat} {q : Int32} {w0 : va_W} (hM : MI Z mo th N u tm er dg co pP pH pF pT op f1 f2 l0 hh c0 c1 c2 c3 tb w0) : Ct Z l yX10_passDays cX10_passDays 2 (some .int) (rmK 12) [.ref (mo 0), .int q] w0 (fun v w => (((if (q < 1 ∨ 30 < q) then 1 else 0) : Int32) = 0 ∧ v = some (.int ((dyN N pP op f1 f2 l0 hh c0 c1 c2 c3 u ((pH, pF, pT), co, dg) q.toNatClampNeg).2.1 - co)) ∧ MI Z mo 0 N u tm er ((dyN N pP op f1 f2 l0 hh c0 c1 c2 c3 u ((pH, pF, pT), co, dg) q.toNatClampNeg).2.2) ((dyN N pP op f1 f2 l0 hh c0 c1 c2 c3 u ((pH, pF, pT), co, dg) q.toNatClampNeg).2.1) pP ((dyN N pP op f1 f2 l0 hh c0 c1 c2 c3 u ((pH, pF, pT), co, dg) q.toNatClampNeg).1.1) ((dyN N pP op f1 f2 l0 hh c0 c1 c2 c3 u ((pH, pF, pT), co, dg) q.toNatClampNeg).1.2.1) ((dyN N pP op f1 f2 l0 hh c0 c1 c2 c3 u ((pH, pF, pT), co, dg) q.toNatClampNeg).1.2.2) op f1 f2 l0 hh c0 c1 c2 c3 tb w) ∨ (∃ z, ¬ ((if (q < 1 ∨ 30 < q) then 1 else 0) : Int32) = 0 ∧ v = some (.int (z)) ∧ MI Z mo ((if (q < 1 ∨ 30 < q) then 1 else 0) : Int32) N u tm er dg co pP pH pF pT op f1 f2 l0 hh c0 c1 c2 c3 tb w)) := by
  refine MI.elim hM (fun pl tk dp lr mn kn hn va ha hg dz wh bg en od wi al tp kd fr me wo kh kf kl sh dk sk S hs e9 hkn hS4 hrow hlaw htp => ?_)
  subst e9
  have hN := hs.1
  refine (c_X10_passDays hN hkn hs.2.1 hS4 hrow hlaw hs.2.2.2.1 hs.2.2.2.2.1).weaken (fun v w h9 => ?_)
  rcases h9 with ⟨hb, rfl, rfl⟩ | ⟨n, kn2, sh2, dk2, sk2, ht2, fs2, la2, ca2, dy2, hn1, hn2, rfl, rfl, rfl, hd, ok2, hft⟩
  · have hc : ((if (q < 1 ∨ 30 < q) then 1 else 0) : Int32) = 1 := by rw [if_pos (inX_f hb)]
    refine Or.inr ⟨0, by rw [hc]; decide, rfl, ?_⟩
    rw [hc]
    exact MI.mk pl tk dp lr mn kn hn va ha hg dz wh bg en od wi al tp kd fr me wo kh kf kl sh dk sk S hs rfl hkn hS4 hrow hlaw htp
  · have eN : (nI n).toNatClampNeg = n := nI_clamp (by omega)
    rw [eN, hd]
    exact Or.inl ⟨by rw [if_neg (show ¬ (nI n < 1 ∨ 30 < nI n) from nI_rng (a := 1) (b := 30) hn1 hn2 (by decide))], rfl, MI.mk pl tk dp lr mn kn2 hn va ha hg dz wh bg en od wi al tp kd fr me wo kh kf kl sh2 dk2 sk2 S ⟨hN, hs.2.1, hs.2.2.1, hs.2.2.2.1, hft, hs.2.2.2.2.2⟩ rfl ok2 hS4 hrow hlaw htp⟩
theorem n_X10_lostAfter {Z : GZ} {l : Launch} {mo : Nat → Nat} {th : Int32} {N u tm : Nat} {er dg co : Int32} {pP pH pF pT op f1 f2 l0 tb : Nat → Int32} {hh c0 c1 c2 c3 : Nat → Nat} {q : Int32} {w0 : va_W} (hM : MI Z mo th N u tm er dg co pP pH pF pT op f1 f2 l0 hh c0 c1 c2 c3 tb w0) : Ct Z l yX10_lostAfter cX10_lostAfter 5 (some .int) (rmK 12) [.ref (mo 0), .int q] w0 (fun v w => (((if (q < 1 ∨ 30 < q) then 1 else 0) : Int32) = 0 ∧ v = some (.int (lgD N pP (dyN N pP op f1 f2 l0 hh c0 c1 c2 c3 u ((pH, pF, pT), co, dg) q.toNatClampNeg))) ∧ MI Z mo 0 N u tm er dg co pP pH pF pT op f1 f2 l0 hh c0 c1 c2 c3 tb w) ∨ (∃ z, ¬ ((if (q < 1 ∨ 30 < q) then 1 else 0) : Int32) = 0 ∧ v = some (.int (z)) ∧ MI Z mo ((if (q < 1 ∨ 30 < q) then 1 else 0) : Int32) N u tm er dg co pP pH pF pT op f1 f2 l0 hh c0 c1 c2 c3 tb w)) := by
  refine MI.elim hM (fun pl tk dp lr mn kn hn va ha hg dz wh bg en od wi al tp kd fr me wo kh kf kl sh dk sk S hs e9 hkn hS4 hrow hlaw htp => ?_)
  subst e9
  have hN := hs.1
  refine (c_X10_lostAfter hN hkn hs.2.1 hS4 hrow hlaw hs.2.2.2.1 hs.2.2.2.2.1).weaken (fun v w h9 => ?_)
  rcases h9 with ⟨hb, rfl, rfl⟩ | ⟨n, sk2, ht2, fs2, la2, ca2, dy2, sh3, dk3, hn1, hn2, rfl, hd, hft, rfl, rfl⟩
  · have hc : ((if (q < 1 ∨ 30 < q) then 1 else 0) : Int32) = 1 := by rw [if_pos (inX_f hb)]
    refine Or.inr ⟨0, by rw [hc]; decide, rfl, ?_⟩
    rw [hc]
    exact MI.mk pl tk dp lr mn kn hn va ha hg dz wh bg en od wi al tp kd fr me wo kh kf kl sh dk sk S hs rfl hkn hS4 hrow hlaw htp
  · have eN : (nI n).toNatClampNeg = n := nI_clamp (by omega)
    rw [eN, hd]
    exact Or.inl ⟨by rw [if_neg (show ¬ (nI n < 1 ∨ 30 < nI n) from nI_rng (a := 1) (b := 30) hn1 hn2 (by decide))], congrArg (fun z => some (Value.int z)) (al_eq hs.2.2.2.1 hft), MI.mk pl tk dp lr mn false hn va ha hg dz wh bg en od wi al tp kd fr me wo pH pF pT sh3 dk3 sk2 S hs rfl (fun e => absurd e (by decide)) hS4 hrow hlaw htp⟩
theorem n_X10_fairCurfew {Z : GZ} {l : Launch} {mo : Nat → Nat} {th : Int32} {N u tm : Nat} {er dg co : Int32} {pP pH pF pT op f1 f2 l0 tb : Nat → Int32} {hh c0 c1 c2 c3 : Nat → Nat} {q : Int32} {g : Int32} {w0 : va_W} (hM : MI Z mo th N u tm er dg co pP pH pF pT op f1 f2 l0 hh c0 c1 c2 c3 tb w0) : Ct Z l yX10_fairCurfew cX10_fairCurfew 3 (some .int) (rmK 11) [.ref (mo 0), .int q, .int g] w0 (fun v w => (((if ¬ hasB (nI N) q = true then 1 else (if (g < 1 ∨ 13 < g) then 2 else 0)) : Int32) = 0 ∧ v = some (.int ((frX (fcV N pP pH pF pT g.toNatClampNeg q.toNatClampNeg) (14 - g.toNatClampNeg)).1)) ∧ MI Z mo 0 N u tm er dg co pP pH pF pT op f1 f2 l0 hh c0 c1 c2 c3 tb w) ∨ (∃ z, ¬ ((if ¬ hasB (nI N) q = true then 1 else (if (g < 1 ∨ 13 < g) then 2 else 0)) : Int32) = 0 ∧ v = some (.int (z)) ∧ MI Z mo ((if ¬ hasB (nI N) q = true then 1 else (if (g < 1 ∨ 13 < g) then 2 else 0)) : Int32) N u tm er dg co pP pH pF pT op f1 f2 l0 hh c0 c1 c2 c3 tb w)) := by
  refine MI.elim hM (fun pl tk dp lr mn kn hn va ha hg dz wh bg en od wi al tp kd fr me wo kh kf kl sh dk sk S hs e9 hkn hS4 hrow hlaw htp => ?_)
  subst e9
  have hN := hs.1
  refine (c_X10_fairCurfew hN hkn hs.2.2.2.1 hs.2.2.2.2.1).weaken (fun v w h9 => ?_)
  rcases h9 with ⟨hno, rfl, rfl⟩ | ⟨⟨i, hi, rfl⟩, hb, rfl, rfl⟩ | ⟨i, n, sh2, dk2, hi, rfl, hn1, hn2, rfl, rfl, rfl⟩
  · have hc : ((if ¬ hasB (nI N) q = true then 1 else (if (g < 1 ∨ 13 < g) then 2 else 0)) : Int32) = 1 := by rw [if_pos (fun z => hno (hasB_ex hN z))]
    refine Or.inr ⟨0, by rw [hc]; decide, rfl, ?_⟩
    rw [hc]
    exact MI.mk pl tk dp lr mn kn hn va ha hg dz wh bg en od wi al tp kd fr me wo kh kf kl sh dk sk S hs rfl hkn hS4 hrow hlaw htp
  · have hc : ((if ¬ hasB (nI N) (nI i) = true then 1 else (if (g < 1 ∨ 13 < g) then 2 else 0)) : Int32) = 2 := by rw [if_neg (fun z => z (hasB_nI hi hN)), if_pos (inX_f hb)]
    refine Or.inr ⟨0, by rw [hc]; decide, rfl, ?_⟩
    rw [hc]
    exact MI.mk pl tk dp lr mn kn hn va ha hg dz wh bg en od wi al tp kd fr me wo kh kf kl sh dk sk S hs rfl hkn hS4 hrow hlaw htp
  · have ei : (nI i).toNatClampNeg = i := nI_clamp (by omega)
    have eN : (nI n).toNatClampNeg = n := nI_clamp (by omega)
    rw [ei, eN]
    exact Or.inl ⟨by rw [if_neg (fun z => z (hasB_nI hi hN)), if_neg (show ¬ (nI n < 1 ∨ 13 < nI n) from nI_rng (a := 1) (b := 13) hn1 hn2 (by decide))], rfl, MI.mk pl tk dp lr mn false hn va ha hg dz wh bg en od wi al tp kd fr me wo kh kf kl sh2 dk2 sk S hs rfl (fun e => absurd e (by decide)) hS4 hrow hlaw htp⟩
theorem n_X10_fairestWall {Z : GZ} {l : Launch} {mo : Nat → Nat} {th : Int32} {N u tm : Nat} {er dg co : Int32} {pP pH pF pT op f1 f2 l0 tb : Nat → Int32} {hh c0 c1 c2 c3 : Nat → Nat} {g : Int32} {w0 : va_W} (hM : MI Z mo th N u tm er dg co pP pH pF pT op f1 f2 l0 hh c0 c1 c2 c3 tb w0) : Ct Z l yX10_fairestWall cX10_fairestWall 6 (some .int) (rmK 11) [.ref (mo 0), .int g] w0 (fun v w => (((if (g < 1 ∨ 13 < g) then 1 else 0) : Int32) = 0 ∧ v = some (.int ((owX (fcV N pP pH pF pT g.toNatClampNeg) (14 - g.toNatClampNeg) (-1, laG N pP pH pF pT) N).1)) ∧ MI Z mo 0 N u tm er dg co pP pH pF pT op f1 f2 l0 hh c0 c1 c2 c3 tb w) ∨ (∃ z, ¬ ((if (g < 1 ∨ 13 < g) then 1 else 0) : Int32) = 0 ∧ v = some (.int (z)) ∧ MI Z mo ((if (g < 1 ∨ 13 < g) then 1 else 0) : Int32) N u tm er dg co pP pH pF pT op f1 f2 l0 hh c0 c1 c2 c3 tb w)) := by
  refine MI.elim hM (fun pl tk dp lr mn kn hn va ha hg dz wh bg en od wi al tp kd fr me wo kh kf kl sh dk sk S hs e9 hkn hS4 hrow hlaw htp => ?_)
  subst e9
  have hN := hs.1
  refine (c_X10_fairestWall hN hkn hs.2.2.2.1 hs.2.2.2.2.1).weaken (fun v w h9 => ?_)
  rcases h9 with ⟨hb, rfl, rfl⟩ | ⟨n, kn2, sh2, dk2, hn1, hn2, rfl, rfl, rfl, ok2⟩
  · have hc : ((if (g < 1 ∨ 13 < g) then 1 else 0) : Int32) = 1 := by rw [if_pos (inX_f hb)]
    refine Or.inr ⟨0, by rw [hc]; decide, rfl, ?_⟩
    rw [hc]
    exact MI.mk pl tk dp lr mn kn hn va ha hg dz wh bg en od wi al tp kd fr me wo kh kf kl sh dk sk S hs rfl hkn hS4 hrow hlaw htp
  · have eN : (nI n).toNatClampNeg = n := nI_clamp (by omega)
    rw [eN]
    exact Or.inl ⟨by rw [if_neg (show ¬ (nI n < 1 ∨ 13 < nI n) from nI_rng (a := 1) (b := 13) hn1 hn2 (by decide))], congrArg (fun z => some (Value.int z)) (by rw [fcV_al hs.2.2.2.1 hs.2.2.2.2.1]), MI.mk pl tk dp lr mn kn2 hn va ha hg dz wh bg en od wi al tp kd fr me wo kh kf kl sh2 dk2 sk S hs rfl ok2 hS4 hrow hlaw htp⟩
theorem dark_no {N i : Nat} {P H F T : Nat → Int32} {g : Int32} (h : sbM P (fun k => shH P H F T i k) i g N = none) : hhX (dkG N P H F T i) g = false := by
  cases e : hhX (dkG N P H F T i) g
  · rfl
  · obtain ⟨k, k1, k2⟩ := or_bit.mp (hh_1.mp e)
    exact absurd k2 (sbM_none.mp h k k1)
theorem dark_yes {N i t : Nat} {P H F T : Nat → Int32} {g : Int32} (h : sbM P (fun k => shH P H F T i k) i g N = some t) : ¬ hhX (dkG N P H F T i) g = false := by
  intro e
  have h2 : sbM P (fun k => shH P H F T i k) i g N = none := sbM_none.mpr (fun k k1 k2 => by
    have := hh_1.mpr (or_bit.mpr ⟨k, k1, k2⟩)
    rw [show orN (fun k => shH P H F T i k) N = dkG N P H F T i from rfl, e] at this
    cases this)
  rw [h] at h2
  cases h2
theorem n_X10_shadedBy {Z : GZ} {l : Launch} {mo : Nat → Nat} {th : Int32} {N u tm : Nat} {er dg co : Int32} {pP pH pF pT op f1 f2 l0 tb : Nat → Int32} {hh c0 c1 c2 c3 : Nat → Nat} {q : Int32} {g : Int32} {w0 : va_W} (hM : MI Z mo th N u tm er dg co pP pH pF pT op f1 f2 l0 hh c0 c1 c2 c3 tb w0) : Ct Z l yX10_shadedBy cX10_shadedBy 5 (some .int) (rmK 9) [.ref (mo 0), .int q, .int g] w0 (fun v w => (((if ¬ hasB (nI N) q = true then 1 else (if (g < 0 ∨ 24 ≤ g) then 1 else (if hhX (stAt (nI N) q (dkG N pP pH pF pT) 0) g = false then 2 else 0))) : Int32) = 0 ∧ v = some (.int (oN (sbM pP (fun k => shH pP pH pF pT q.toNatClampNeg k) q.toNatClampNeg g N))) ∧ MI Z mo 0 N u tm er dg co pP pH pF pT op f1 f2 l0 hh c0 c1 c2 c3 tb w) ∨ (∃ z, ¬ ((if ¬ hasB (nI N) q = true then 1 else (if (g < 0 ∨ 24 ≤ g) then 1 else (if hhX (stAt (nI N) q (dkG N pP pH pF pT) 0) g = false then 2 else 0))) : Int32) = 0 ∧ v = some (.int (z)) ∧ MI Z mo ((if ¬ hasB (nI N) q = true then 1 else (if (g < 0 ∨ 24 ≤ g) then 1 else (if hhX (stAt (nI N) q (dkG N pP pH pF pT) 0) g = false then 2 else 0))) : Int32) N u tm er dg co pP pH pF pT op f1 f2 l0 hh c0 c1 c2 c3 tb w)) := by
  refine MI.elim hM (fun pl tk dp lr mn kn hn va ha hg dz wh bg en od wi al tp kd fr me wo kh kf kl sh dk sk S hs e9 hkn hS4 hrow hlaw htp => ?_)
  subst e9
  have hN := hs.1
  refine (c_X10_shadedBy hN hkn).weaken (fun v w h9 => ?_)
  rcases h9 with ⟨hno, rfl, rfl⟩ | ⟨i, kn2, sh2, dk2, hi, rfl, hG, hb, rfl, rfl, ok2⟩ | ⟨i, t, kn2, sh2, dk2, hi, rfl, hG, hb, rfl, rfl, ok2⟩
  · by_cases hq : hasB (nI N) q = true
    · have hc : ((if ¬ hasB (nI N) q = true then 1 else (if (g < 0 ∨ 24 ≤ g) then 1 else (if hhX (stAt (nI N) q (dkG N pP pH pF pT) 0) g = false then 2 else 0))) : Int32) = 1 := by rw [if_neg (fun z => z hq), if_pos (Classical.byContradiction (fun z => by obtain ⟨i, hi, e⟩ := hasB_ex hN hq; exact hno ⟨i, hi, e, z⟩))]
      refine Or.inr ⟨0, by rw [hc]; decide, rfl, ?_⟩
      rw [hc]
      exact MI.mk pl tk dp lr mn kn hn va ha hg dz wh bg en od wi al tp kd fr me wo kh kf kl sh dk sk S hs rfl hkn hS4 hrow hlaw htp
    · have hc : ((if ¬ hasB (nI N) q = true then 1 else (if (g < 0 ∨ 24 ≤ g) then 1 else (if hhX (stAt (nI N) q (dkG N pP pH pF pT) 0) g = false then 2 else 0))) : Int32) = 1 := by rw [if_pos hq]
      refine Or.inr ⟨0, by rw [hc]; decide, rfl, ?_⟩
      rw [hc]
      exact MI.mk pl tk dp lr mn kn hn va ha hg dz wh bg en od wi al tp kd fr me wo kh kf kl sh dk sk S hs rfl hkn hS4 hrow hlaw htp
  · rw [sbM_cong (fun k hk => lk_eq hs.2.2.2.1 hs.2.2.2.2.1 hi hk)] at hb
    have hc : ((if ¬ hasB (nI N) (nI i) = true then 1 else (if (g < 0 ∨ 24 ≤ g) then 1 else (if hhX (stAt (nI N) (nI i) (dkG N pP pH pF pT) 0) g = false then 2 else 0))) : Int32) = 2 := by rw [if_neg (fun z => z (hasB_nI hi hN)), if_neg hG, if_pos (show hhX (stAt (nI N) (nI i) (dkG N pP pH pF pT) 0) g = false from by rw [stAt_nI hi hN]; exact dark_no hb)]
    refine Or.inr ⟨0, by rw [hc]; decide, rfl, ?_⟩
    rw [hc]
    exact MI.mk pl tk dp lr mn kn2 hn va ha hg dz wh bg en od wi al tp kd fr me wo kh kf kl sh2 dk2 sk S hs rfl ok2 hS4 hrow hlaw htp
  · rw [sbM_cong (fun k hk => lk_eq hs.2.2.2.1 hs.2.2.2.2.1 hi hk)] at hb
    have ei : (nI i).toNatClampNeg = i := nI_clamp (by omega)
    rw [ei]
    exact Or.inl ⟨by rw [if_neg (fun z => z (hasB_nI hi hN)), if_neg hG, if_neg (show ¬ hhX (stAt (nI N) (nI i) (dkG N pP pH pF pT) 0) g = false from by rw [stAt_nI hi hN]; exact dark_yes hb)], congrArg (fun z => some (Value.int z)) (by rw [hb, oN]), MI.mk pl tk dp lr mn kn2 hn va ha hg dz wh bg en od wi al tp kd fr me wo kh kf kl sh2 dk2 sk S hs rfl ok2 hS4 hrow hlaw htp⟩
theorem n_X10_feed {Z : GZ} {l : Launch} {mo : Nat → Nat} {th : Int32} {N u tm : Nat} {er dg co : Int32} {pP pH pF pT op f1 f2 l0 tb : Nat → Int32} {hh c0 c1 c2 c3 : Nat → Nat} {i0 : Int32} {i1 : Int32} {i2 : Int32} {i3 : Int32} {i4 : Int32} {w0 : va_W} (hM : MI Z mo th N u tm er dg co pP pH pF pT op f1 f2 l0 hh c0 c1 c2 c3 tb w0) : Ct Z l yX10_feed cX10_feed 8 (some .int) (rmM 2 1 5) [.ref (mo 0), .int i0, .int i1, .int i2, .int i3, .int i4] w0 (fun v w => (((if ¬ tm ≤ 1980 then 1 else 0) : Int32) = 0 ∧ v = some (.int (nI (tm + 20))) ∧ MI Z mo 0 N u (tm + 20) er dg co pP pH pF pT op f1 f2 l0 hh c0 c1 c2 c3 (apF (apF (apF (apF (apF tb tm i0) (tm + 4) i1) (tm + 8) i2) (tm + 12) i3) (tm + 16) i4) w) ∨ (∃ z, ¬ ((if ¬ tm ≤ 1980 then 1 else 0) : Int32) = 0 ∧ v = some (.int (z)) ∧ MI Z mo ((if ¬ tm ≤ 1980 then 1 else 0) : Int32) N u tm er dg co pP pH pF pT op f1 f2 l0 hh c0 c1 c2 c3 tb w)) := by
  refine MI.elim hM (fun pl tk dp lr mn kn hn va ha hg dz wh bg en od wi al tp kd fr me wo kh kf kl sh dk sk S hs e9 hkn hS4 hrow hlaw htp => ?_)
  subst e9
  have hN := hs.1
  refine (c_X10_feed hs.2.2.1).weaken (fun v w h9 => ?_)
  rcases h9 with ⟨hb, rfl, rfl⟩ | ⟨A9, hb, hA, rfl, rfl⟩
  · have hc : ((if ¬ tm ≤ 1980 then 1 else 0) : Int32) = 1 := by rw [if_pos hb]
    refine Or.inr ⟨0, by rw [hc]; decide, rfl, ?_⟩
    rw [hc]
    exact MI.mk pl tk dp lr mn kn hn va ha hg dz wh bg en od wi al tp kd fr me wo kh kf kl sh dk sk S hs rfl hkn hS4 hrow hlaw htp
  · exact Or.inl ⟨by rw [if_neg (fun z => z hb)], rfl, MI.mk pl tk dp lr mn kn hn va ha hg dz wh bg en od wi al (fdM tp A9 tm 20) kd fr me wo kh kf kl sh dk sk S ⟨hN, hs.2.1, by omega, hs.2.2.2⟩ rfl hkn hS4 hrow hlaw (feed_tape hA hb htp)⟩
theorem n_X10_trim {Z : GZ} {l : Launch} {mo : Nat → Nat} {th : Int32} {N u tm : Nat} {er dg co : Int32} {pP pH pF pT op f1 f2 l0 tb : Nat → Int32} {hh c0 c1 c2 c3 : Nat → Nat} {q : Int32} {w0 : va_W} (hM : MI Z mo th N u tm er dg co pP pH pF pT op f1 f2 l0 hh c0 c1 c2 c3 tb w0) : Ct Z l yX10_trim cX10_trim 2 (some .int) (rmK 2) [.ref (mo 0), .int q] w0 (fun v w => (((if (q < 0 ∨ nI tm < q) then 1 else 0) : Int32) = 0 ∧ v = some (.int (q)) ∧ MI Z mo 0 N u q.toNatClampNeg er dg co pP pH pF pT op f1 f2 l0 hh c0 c1 c2 c3 tb w) ∨ (∃ z, ¬ ((if (q < 0 ∨ nI tm < q) then 1 else 0) : Int32) = 0 ∧ v = some (.int (z)) ∧ MI Z mo ((if (q < 0 ∨ nI tm < q) then 1 else 0) : Int32) N u tm er dg co pP pH pF pT op f1 f2 l0 hh c0 c1 c2 c3 tb w)) := by
  refine MI.elim hM (fun pl tk dp lr mn kn hn va ha hg dz wh bg en od wi al tp kd fr me wo kh kf kl sh dk sk S hs e9 hkn hS4 hrow hlaw htp => ?_)
  subst e9
  have hN := hs.1
  refine (c_X10_trim ).weaken (fun v w h9 => ?_)
  rcases h9 with ⟨hb, rfl, rfl⟩ | ⟨hb, rfl, rfl⟩
  · have hc : ((if (q < 0 ∨ nI tm < q) then 1 else 0) : Int32) = 1 := by rw [if_pos (inX_f hb)]
    refine Or.inr ⟨0, by rw [hc]; decide, rfl, ?_⟩
    rw [hc]
    exact MI.mk pl tk dp lr mn kn hn va ha hg dz wh bg en od wi al tp kd fr me wo kh kf kl sh dk sk S hs rfl hkn hS4 hrow hlaw htp
  · obtain ⟨t9, ht9, rfl⟩ := in_nI (by have := hs.2.2.1; omega) (inX_t hb)
    have et : (nI t9).toNatClampNeg = t9 := nI_clamp (by have := hs.2.2.1; omega)
    rw [et]
    exact Or.inl ⟨by rw [if_neg (inX_t hb)], rfl, MI.mk pl tk dp lr mn kn hn va ha hg dz wh bg en od wi al tp kd fr me wo kh kf kl sh dk sk S ⟨hN, hs.2.1, by have := hs.2.2.1; omega, hs.2.2.2⟩ rfl hkn hS4 hrow hlaw (fun p hp => (htp p (by omega)).trans (sgN_less hp ht9 hs.2.2.1))⟩
theorem n_X10_errorAt {Z : GZ} {l : Launch} {mo : Nat → Nat} {th : Int32} {N u tm : Nat} {er dg co : Int32} {pP pH pF pT op f1 f2 l0 tb : Nat → Int32} {hh c0 c1 c2 c3 : Nat → Nat} {w0 : va_W} (hM : MI Z mo th N u tm er dg co pP pH pF pT op f1 f2 l0 hh c0 c1 c2 c3 tb w0) : Ct Z l yX10_errorAt cX10_errorAt 1 (some .int) (rmK 9) [.ref (mo 0)] w0 (fun v w => v = some (.int (er)) ∧ MI Z mo 0 N u tm er dg co pP pH pF pT op f1 f2 l0 hh c0 c1 c2 c3 tb w) := by
  refine MI.elim hM (fun pl tk dp lr mn kn hn va ha hg dz wh bg en od wi al tp kd fr me wo kh kf kl sh dk sk S hs e9 hkn hS4 hrow hlaw htp => ?_)
  subst e9
  have hN := hs.1
  refine (c_X10_errorAt hN hkn).weaken (fun v w h9 => ?_)
  obtain ⟨kn2, sh2, dk2, ok2, rfl, rfl⟩ := h9
  exact ⟨rfl, MI.mk pl tk dp lr mn kn2 hn va ha hg dz wh bg en od wi al tp kd fr me wo kh kf kl sh2 dk2 sk S hs rfl ok2 hS4 hrow hlaw htp⟩
theorem n_X10_houses {Z : GZ} {l : Launch} {mo : Nat → Nat} {th : Int32} {N u tm : Nat} {er dg co : Int32} {pP pH pF pT op f1 f2 l0 tb : Nat → Int32} {hh c0 c1 c2 c3 : Nat → Nat} {w0 : va_W} (hM : MI Z mo th N u tm er dg co pP pH pF pT op f1 f2 l0 hh c0 c1 c2 c3 tb w0) : Ct Z l yX10_houses cX10_houses 1 (some .int) (rmK 9) [.ref (mo 0)] w0 (fun v w => v = some (.int (nI N)) ∧ MI Z mo 0 N u tm er dg co pP pH pF pT op f1 f2 l0 hh c0 c1 c2 c3 tb w) := by
  refine MI.elim hM (fun pl tk dp lr mn kn hn va ha hg dz wh bg en od wi al tp kd fr me wo kh kf kl sh dk sk S hs e9 hkn hS4 hrow hlaw htp => ?_)
  subst e9
  have hN := hs.1
  refine (c_X10_houses hN hkn).weaken (fun v w h9 => ?_)
  obtain ⟨kn2, sh2, dk2, ok2, rfl, rfl⟩ := h9
  exact ⟨rfl, MI.mk pl tk dp lr mn kn2 hn va ha hg dz wh bg en od wi al tp kd fr me wo kh kf kl sh2 dk2 sk S hs rfl ok2 hS4 hrow hlaw htp⟩
theorem n_X10_laws {Z : GZ} {l : Launch} {mo : Nat → Nat} {th : Int32} {N u tm : Nat} {er dg co : Int32} {pP pH pF pT op f1 f2 l0 tb : Nat → Int32} {hh c0 c1 c2 c3 : Nat → Nat} {w0 : va_W} (hM : MI Z mo th N u tm er dg co pP pH pF pT op f1 f2 l0 hh c0 c1 c2 c3 tb w0) : Ct Z l yX10_laws cX10_laws 1 (some .int) (rmK 9) [.ref (mo 0)] w0 (fun v w => v = some (.int (nI u)) ∧ MI Z mo 0 N u tm er dg co pP pH pF pT op f1 f2 l0 hh c0 c1 c2 c3 tb w) := by
  refine MI.elim hM (fun pl tk dp lr mn kn hn va ha hg dz wh bg en od wi al tp kd fr me wo kh kf kl sh dk sk S hs e9 hkn hS4 hrow hlaw htp => ?_)
  subst e9
  have hN := hs.1
  refine (c_X10_laws hN hkn).weaken (fun v w h9 => ?_)
  obtain ⟨kn2, sh2, dk2, ok2, rfl, rfl⟩ := h9
  exact ⟨rfl, MI.mk pl tk dp lr mn kn2 hn va ha hg dz wh bg en od wi al tp kd fr me wo kh kf kl sh2 dk2 sk S hs rfl ok2 hS4 hrow hlaw htp⟩
theorem n_X10_days {Z : GZ} {l : Launch} {mo : Nat → Nat} {th : Int32} {N u tm : Nat} {er dg co : Int32} {pP pH pF pT op f1 f2 l0 tb : Nat → Int32} {hh c0 c1 c2 c3 : Nat → Nat} {w0 : va_W} (hM : MI Z mo th N u tm er dg co pP pH pF pT op f1 f2 l0 hh c0 c1 c2 c3 tb w0) : Ct Z l yX10_days cX10_days 1 (some .int) (rmK 9) [.ref (mo 0)] w0 (fun v w => v = some (.int (dg)) ∧ MI Z mo 0 N u tm er dg co pP pH pF pT op f1 f2 l0 hh c0 c1 c2 c3 tb w) := by
  refine MI.elim hM (fun pl tk dp lr mn kn hn va ha hg dz wh bg en od wi al tp kd fr me wo kh kf kl sh dk sk S hs e9 hkn hS4 hrow hlaw htp => ?_)
  subst e9
  have hN := hs.1
  refine (c_X10_days hN hkn).weaken (fun v w h9 => ?_)
  obtain ⟨kn2, sh2, dk2, ok2, rfl, rfl⟩ := h9
  exact ⟨rfl, MI.mk pl tk dp lr mn kn2 hn va ha hg dz wh bg en od wi al tp kd fr me wo kh kf kl sh2 dk2 sk S hs rfl ok2 hS4 hrow hlaw htp⟩
theorem n_X10_lawsCarriedOut {Z : GZ} {l : Launch} {mo : Nat → Nat} {th : Int32} {N u tm : Nat} {er dg co : Int32} {pP pH pF pT op f1 f2 l0 tb : Nat → Int32} {hh c0 c1 c2 c3 : Nat → Nat} {w0 : va_W} (hM : MI Z mo th N u tm er dg co pP pH pF pT op f1 f2 l0 hh c0 c1 c2 c3 tb w0) : Ct Z l yX10_lawsCarriedOut cX10_lawsCarriedOut 1 (some .int) (rmK 9) [.ref (mo 0)] w0 (fun v w => v = some (.int (co)) ∧ MI Z mo 0 N u tm er dg co pP pH pF pT op f1 f2 l0 hh c0 c1 c2 c3 tb w) := by
  refine MI.elim hM (fun pl tk dp lr mn kn hn va ha hg dz wh bg en od wi al tp kd fr me wo kh kf kl sh dk sk S hs e9 hkn hS4 hrow hlaw htp => ?_)
  subst e9
  have hN := hs.1
  refine (c_X10_lawsCarriedOut hN hkn).weaken (fun v w h9 => ?_)
  obtain ⟨kn2, sh2, dk2, ok2, rfl, rfl⟩ := h9
  exact ⟨rfl, MI.mk pl tk dp lr mn kn2 hn va ha hg dz wh bg en od wi al tp kd fr me wo kh kf kl sh2 dk2 sk S hs rfl ok2 hS4 hrow hlaw htp⟩
theorem n_X10_allHoursLost {Z : GZ} {l : Launch} {mo : Nat → Nat} {th : Int32} {N u tm : Nat} {er dg co : Int32} {pP pH pF pT op f1 f2 l0 tb : Nat → Int32} {hh c0 c1 c2 c3 : Nat → Nat} {w0 : va_W} (hM : MI Z mo th N u tm er dg co pP pH pF pT op f1 f2 l0 hh c0 c1 c2 c3 tb w0) : Ct Z l yX10_allHoursLost cX10_allHoursLost 1 (some .int) (rmK 9) [.ref (mo 0)] w0 (fun v w => v = some (.int (laG N pP pH pF pT)) ∧ MI Z mo 0 N u tm er dg co pP pH pF pT op f1 f2 l0 hh c0 c1 c2 c3 tb w) := by
  refine MI.elim hM (fun pl tk dp lr mn kn hn va ha hg dz wh bg en od wi al tp kd fr me wo kh kf kl sh dk sk S hs e9 hkn hS4 hrow hlaw htp => ?_)
  subst e9
  have hN := hs.1
  refine (c_X10_allHoursLost hN hkn).weaken (fun v w h9 => ?_)
  obtain ⟨kn2, sh2, dk2, ok2, rfl, rfl⟩ := h9
  exact ⟨congrArg (fun z => some (Value.int z)) (al_eq hs.2.2.2.1 hs.2.2.2.2.1), MI.mk pl tk dp lr mn kn2 hn va ha hg dz wh bg en od wi al tp kd fr me wo kh kf kl sh2 dk2 sk S hs rfl ok2 hS4 hrow hlaw htp⟩
theorem n_X10_lightHouses {Z : GZ} {l : Launch} {mo : Nat → Nat} {th : Int32} {N u tm : Nat} {er dg co : Int32} {pP pH pF pT op f1 f2 l0 tb : Nat → Int32} {hh c0 c1 c2 c3 : Nat → Nat} {w0 : va_W} (hM : MI Z mo th N u tm er dg co pP pH pF pT op f1 f2 l0 hh c0 c1 c2 c3 tb w0) : Ct Z l yX10_lightHouses cX10_lightHouses 1 (some .int) (rmK 9) [.ref (mo 0)] w0 (fun v w => v = some (.int (nI (cntN (ltB N (dkG N pP pH pF pT)) N))) ∧ MI Z mo 0 N u tm er dg co pP pH pF pT op f1 f2 l0 hh c0 c1 c2 c3 tb w) := by
  refine MI.elim hM (fun pl tk dp lr mn kn hn va ha hg dz wh bg en od wi al tp kd fr me wo kh kf kl sh dk sk S hs e9 hkn hS4 hrow hlaw htp => ?_)
  subst e9
  have hN := hs.1
  refine (c_X10_lightHouses hN hkn).weaken (fun v w h9 => ?_)
  obtain ⟨kn2, sh2, dk2, ok2, rfl, rfl⟩ := h9
  exact ⟨congrArg (fun z => some (Value.int z)) (lt_cnt hN hs.2.2.2.1 hs.2.2.2.2.1), MI.mk pl tk dp lr mn kn2 hn va ha hg dz wh bg en od wi al tp kd fr me wo kh kf kl sh2 dk2 sk S hs rfl ok2 hS4 hrow hlaw htp⟩
theorem n_X10_meanLost {Z : GZ} {l : Launch} {mo : Nat → Nat} {th : Int32} {N u tm : Nat} {er dg co : Int32} {pP pH pF pT op f1 f2 l0 tb : Nat → Int32} {hh c0 c1 c2 c3 : Nat → Nat} {w0 : va_W} (hM : MI Z mo th N u tm er dg co pP pH pF pT op f1 f2 l0 hh c0 c1 c2 c3 tb w0) : Ct Z l yX10_meanLost cX10_meanLost 1 (some .double) (rmK 9) [.ref (mo 0)] w0 (fun v w => v = some (.double (mlX N (laG N pP pH pF pT))) ∧ MI Z mo 0 N u tm er dg co pP pH pF pT op f1 f2 l0 hh c0 c1 c2 c3 tb w) := by
  refine MI.elim hM (fun pl tk dp lr mn kn hn va ha hg dz wh bg en od wi al tp kd fr me wo kh kf kl sh dk sk S hs e9 hkn hS4 hrow hlaw htp => ?_)
  subst e9
  have hN := hs.1
  refine (c_X10_meanLost hN hkn).weaken (fun v w h9 => ?_)
  obtain ⟨kn2, sh2, dk2, rfl, rfl, ok2⟩ := h9
  exact ⟨congrArg (fun z => some (Value.double z)) (by rw [al_eq hs.2.2.2.1 hs.2.2.2.2.1]), MI.mk pl tk dp lr mn kn2 hn va ha hg dz wh bg en od wi al tp kd fr me wo kh kf kl sh2 dk2 sk S hs rfl ok2 hS4 hrow hlaw htp⟩
theorem n_X10_digest {Z : GZ} {l : Launch} {mo : Nat → Nat} {th : Int32} {N u tm : Nat} {er dg co : Int32} {pP pH pF pT op f1 f2 l0 tb : Nat → Int32} {hh c0 c1 c2 c3 : Nat → Nat} {w0 : va_W} (hM : MI Z mo th N u tm er dg co pP pH pF pT op f1 f2 l0 hh c0 c1 c2 c3 tb w0) : Ct Z l yX10_digest cX10_digest 8 (some .long) (rmM 9 1 6) [.ref (mo 0)] w0 (fun v w => v = some (.long (dgMR (fun h => inM (dkM N pP pH pF pT) h N) (dgMO pP pH pF pT (lsM N pP pH pF pT) (ctM N pP pH pF pT) (fun a b => bitC (lkM pP pH pF pT a b)) N (dgA (dgA (dgA (dgA (dgA (dgA 1013 (nI N)) (nI u)) dg) co) (laG N pP pH pF pT)) (nI (cntN (ltB N (dkG N pP pH pF pT)) N))) N) 13)) ∧ MI Z mo 0 N u tm er dg co pP pH pF pT op f1 f2 l0 hh c0 c1 c2 c3 tb w) := by
  refine MI.elim hM (fun pl tk dp lr mn kn hn va ha hg dz wh bg en od wi al tp kd fr me wo kh kf kl sh dk sk S hs e9 hkn hS4 hrow hlaw htp => ?_)
  subst e9
  have hN := hs.1
  refine (c_X10_digest hN hkn).weaken (fun v w h9 => ?_)
  obtain ⟨A9, kn2, sh2, dk2, hA, rfl, rfl, ok2⟩ := h9
  exact ⟨congrArg (fun z => some (Value.long z)) (by rw [dg6n hA, al_eq hs.2.2.2.1 hs.2.2.2.2.1, lt_cnt hN hs.2.2.2.1 hs.2.2.2.2.1]), MI.mk pl tk dp lr mn kn2 hn va ha hg dz wh bg en od wi al tp kd fr me wo kh kf kl sh2 dk2 sk S hs rfl ok2 hS4 hrow hlaw htp⟩
theorem n_X10_daysUntilLight {Z : GZ} {l : Launch} {mo : Nat → Nat} {th : Int32} {N u tm : Nat} {er dg co : Int32} {pP pH pF pT op f1 f2 l0 tb : Nat → Int32} {hh c0 c1 c2 c3 : Nat → Nat} {w0 : va_W} (hM : MI Z mo th N u tm er dg co pP pH pF pT op f1 f2 l0 hh c0 c1 c2 c3 tb w0) : Ct Z l yX10_daysUntilLight cX10_daysUntilLight 4 (some .int) (rmK 12) [.ref (mo 0)] w0 (fun v w => v = some (.int (duX N pP op f1 f2 l0 hh c0 c1 c2 c3 u ((pH, pF, pT), co, dg))) ∧ MI Z mo 0 N u tm er dg co pP pH pF pT op f1 f2 l0 hh c0 c1 c2 c3 tb w) := by
  refine MI.elim hM (fun pl tk dp lr mn kn hn va ha hg dz wh bg en od wi al tp kd fr me wo kh kf kl sh dk sk S hs e9 hkn hS4 hrow hlaw htp => ?_)
  subst e9
  have hN := hs.1
  refine (c_X10_daysUntilLight hN hkn hs.2.1 hS4 hrow hlaw hs.2.2.2.1 hs.2.2.2.2.1).weaken (fun v w h9 => ?_)
  obtain ⟨sk2, sh2, dk2, rfl, rfl⟩ := h9
  exact ⟨congrArg (fun z => some (Value.int z)) (duG_cong (fun k => al_eq hs.2.2.2.1 (dyN_FT hs.2.2.2.2.1 k))), MI.mk pl tk dp lr mn false hn va ha hg dz wh bg en od wi al tp kd fr me wo pH pF pT sh2 dk2 sk2 S hs rfl (fun e => absurd e (by decide)) hS4 hrow hlaw htp⟩
theorem n_X10_thrown {Z : GZ} {l : Launch} {mo : Nat → Nat} {th : Int32} {N u tm : Nat} {er dg co : Int32} {pP pH pF pT op f1 f2 l0 tb : Nat → Int32} {hh c0 c1 c2 c3 : Nat → Nat} {w0 : va_W} (hM : MI Z mo th N u tm er dg co pP pH pF pT op f1 f2 l0 hh c0 c1 c2 c3 tb w0) : Ct Z l yX10_thrown cX10_thrown 1 (some .int) (rmK 0) [.ref (mo 0)] w0 (fun v w => v = some (.int th) ∧ MI Z mo th N u tm er dg co pP pH pF pT op f1 f2 l0 hh c0 c1 c2 c3 tb w) := by
  refine MI.elim hM (fun pl tk dp lr mn kn hn va ha hg dz wh bg en od wi al tp kd fr me wo kh kf kl sh dk sk S hs e9 hkn hS4 hrow hlaw htp => ?_)
  subst e9
  refine c_X10_thrown.weaken (fun v w h9 => ?_)
  obtain ⟨rfl, rfl⟩ := h9
  exact ⟨rfl, MI.mk pl tk dp lr mn kn hn va ha hg dz wh bg en od wi al tp kd fr me wo kh kf kl sh dk sk S hs rfl hkn hS4 hrow hlaw htp⟩
