theorem n_X8_placeOf {Z : GZ} {l : Launch} (hl : l.stackTraces = false) {x : Nat → Nat} {N u tm : Nat} {er dg co : Int32} {pP pH pF pT op f1 f2 l0 tb : Nat → Int32} {hh c0 c1 c2 c3 : Nat → Nat} {q : Int32} {w0 : va_W} (hC : CI Z x N u tm er dg co pP pH pF pT op f1 f2 l0 hh c0 c1 c2 c3 tb w0) : Cq Z l yX8_placeOf cX8_placeOf 2 (some .int) (rmM 8 1 6) [.ref (x 0), .int q] w0 (fun v w => ((if ¬ hasB (nI N) q = true then 1 else 0) : Int32) = 0 ∧ v = some (.int (stAt (nI N) q pP (-1))) ∧ CI Z x N u tm er dg co pP pH pF pT op f1 f2 l0 hh c0 c1 c2 c3 tb w) (fun E => (E = "java/lang/IndexOutOfBoundsException" ∧ ((if ¬ hasB (nI N) q = true then 1 else 0) : Int32) = 1)) := by
  refine CI.elim hC (fun t b p h r a e kk L Ld nk li sk scd hcd lcd sc ct ti si fl fa nt dgt cot lit y0 y1 y2 y3 y4 y5 br ss pS pD pC bP bH l1 l2 l3 l4 l5 bPd bHd opd f1d f2d l0d l1d l2d l3d l4d l5d sf0 pPt pHt pFt pTt pSt pDt pCt nm nmd vf0 kf0 hs e9 hst hlw => ?_)
  subst e9
  have hN := hs.1
  refine (c_X8_placeOf hl).weaken (fun v w h9 => ?_) (fun E h9 => ?_)
  · obtain ⟨rfl, rfl, g0⟩ := h9
    exact ⟨by rw [if_neg (fun z => z g0)], rfl, CI.mk t b p h r a e kk L Ld nk li sk scd hcd lcd sc ct ti si fl fa nt dgt cot lit y0 y1 y2 y3 y4 y5 br ss pS pD pC bP bH l1 l2 l3 l4 l5 bPd bHd opd f1d f2d l0d l1d l2d l3d l4d l5d sf0 pPt pHt pFt pTt pSt pDt pCt nm nmd vf0 kf0 hs rfl hst hlw⟩
  · obtain ⟨rfl, b⟩ := h9
    exact ⟨rfl, by rw [if_pos b]⟩
theorem n_X8_heightOf {Z : GZ} {l : Launch} (hl : l.stackTraces = false) {x : Nat → Nat} {N u tm : Nat} {er dg co : Int32} {pP pH pF pT op f1 f2 l0 tb : Nat → Int32} {hh c0 c1 c2 c3 : Nat → Nat} {q : Int32} {w0 : va_W} (hC : CI Z x N u tm er dg co pP pH pF pT op f1 f2 l0 hh c0 c1 c2 c3 tb w0) : Cq Z l yX8_heightOf cX8_heightOf 2 (some .int) (rmM 8 1 6) [.ref (x 0), .int q] w0 (fun v w => ((if ¬ hasB (nI N) q = true then 1 else 0) : Int32) = 0 ∧ v = some (.int (stAt (nI N) q pH 0)) ∧ CI Z x N u tm er dg co pP pH pF pT op f1 f2 l0 hh c0 c1 c2 c3 tb w) (fun E => (E = "java/lang/IndexOutOfBoundsException" ∧ ((if ¬ hasB (nI N) q = true then 1 else 0) : Int32) = 1)) := by
  refine CI.elim hC (fun t b p h r a e kk L Ld nk li sk scd hcd lcd sc ct ti si fl fa nt dgt cot lit y0 y1 y2 y3 y4 y5 br ss pS pD pC bP bH l1 l2 l3 l4 l5 bPd bHd opd f1d f2d l0d l1d l2d l3d l4d l5d sf0 pPt pHt pFt pTt pSt pDt pCt nm nmd vf0 kf0 hs e9 hst hlw => ?_)
  subst e9
  have hN := hs.1
  refine (c_X8_heightOf hl).weaken (fun v w h9 => ?_) (fun E h9 => ?_)
  · obtain ⟨rfl, rfl, g0⟩ := h9
    exact ⟨by rw [if_neg (fun z => z g0)], rfl, CI.mk t b p h r a e kk L Ld nk li sk scd hcd lcd sc ct ti si fl fa nt dgt cot lit y0 y1 y2 y3 y4 y5 br ss pS pD pC bP bH l1 l2 l3 l4 l5 bPd bHd opd f1d f2d l0d l1d l2d l3d l4d l5d sf0 pPt pHt pFt pTt pSt pDt pCt nm nmd vf0 kf0 hs rfl hst hlw⟩
  · obtain ⟨rfl, b⟩ := h9
    exact ⟨rfl, by rw [if_pos b]⟩
theorem n_X8_hoursLost {Z : GZ} {l : Launch} (hl : l.stackTraces = false) {x : Nat → Nat} {N u tm : Nat} {er dg co : Int32} {pP pH pF pT op f1 f2 l0 tb : Nat → Int32} {hh c0 c1 c2 c3 : Nat → Nat} {q : Int32} {w0 : va_W} (hC : CI Z x N u tm er dg co pP pH pF pT op f1 f2 l0 hh c0 c1 c2 c3 tb w0) : Cq Z l yX8_hoursLost cX8_hoursLost 2 (some .int) (rmM 8 1 6) [.ref (x 0), .int q] w0 (fun v w => ((if ¬ hasB (nI N) q = true then 1 else 0) : Int32) = 0 ∧ v = some (.int (bitC (stAt (nI N) q (dkG N pP pH pF pT) 0))) ∧ CI Z x N u tm er dg co pP pH pF pT op f1 f2 l0 hh c0 c1 c2 c3 tb w) (fun E => (E = "java/lang/IndexOutOfBoundsException" ∧ ((if ¬ hasB (nI N) q = true then 1 else 0) : Int32) = 1)) := by
  refine CI.elim hC (fun t b p h r a e kk L Ld nk li sk scd hcd lcd sc ct ti si fl fa nt dgt cot lit y0 y1 y2 y3 y4 y5 br ss pS pD pC bP bH l1 l2 l3 l4 l5 bPd bHd opd f1d f2d l0d l1d l2d l3d l4d l5d sf0 pPt pHt pFt pTt pSt pDt pCt nm nmd vf0 kf0 hs e9 hst hlw => ?_)
  subst e9
  have hN := hs.1
  refine (c_X8_hoursLost hl).weaken (fun v w h9 => ?_) (fun E h9 => ?_)
  · obtain ⟨rfl, rfl, g0⟩ := h9
    exact ⟨by rw [if_neg (fun z => z g0)], congrArg (fun z => some (Value.int z)) (by rw [stAt_cong hN hst.2.1]), CI.mk t b p h r a e kk L Ld nk li sk scd hcd lcd sc ct ti si fl fa nt dgt cot lit y0 y1 y2 y3 y4 y5 br ss pS pD pC bP bH l1 l2 l3 l4 l5 bPd bHd opd f1d f2d l0d l1d l2d l3d l4d l5d sf0 pPt pHt pFt pTt pSt pDt pCt nm nmd vf0 kf0 hs rfl hst hlw⟩
  · obtain ⟨rfl, b⟩ := h9
    exact ⟨rfl, by rw [if_pos b]⟩
theorem n_X8_castBy {Z : GZ} {l : Launch} (hl : l.stackTraces = false) {x : Nat → Nat} {N u tm : Nat} {er dg co : Int32} {pP pH pF pT op f1 f2 l0 tb : Nat → Int32} {hh c0 c1 c2 c3 : Nat → Nat} {q : Int32} {w0 : va_W} (hC : CI Z x N u tm er dg co pP pH pF pT op f1 f2 l0 hh c0 c1 c2 c3 tb w0) : Cq Z l yX8_castBy cX8_castBy 2 (some .int) (rmM 8 1 6) [.ref (x 0), .int q] w0 (fun v w => ((if ¬ hasB (nI N) q = true then 1 else 0) : Int32) = 0 ∧ v = some (.int (stAt (nI N) q (csG N pP pH pF pT) 0)) ∧ CI Z x N u tm er dg co pP pH pF pT op f1 f2 l0 hh c0 c1 c2 c3 tb w) (fun E => (E = "java/lang/IndexOutOfBoundsException" ∧ ((if ¬ hasB (nI N) q = true then 1 else 0) : Int32) = 1)) := by
  refine CI.elim hC (fun t b p h r a e kk L Ld nk li sk scd hcd lcd sc ct ti si fl fa nt dgt cot lit y0 y1 y2 y3 y4 y5 br ss pS pD pC bP bH l1 l2 l3 l4 l5 bPd bHd opd f1d f2d l0d l1d l2d l3d l4d l5d sf0 pPt pHt pFt pTt pSt pDt pCt nm nmd vf0 kf0 hs e9 hst hlw => ?_)
  subst e9
  have hN := hs.1
  refine (c_X8_castBy hl).weaken (fun v w h9 => ?_) (fun E h9 => ?_)
  · obtain ⟨rfl, rfl, g0⟩ := h9
    exact ⟨by rw [if_neg (fun z => z g0)], congrArg (fun z => some (Value.int z)) (by rw [stAt_cong hN hst.2.2.1]), CI.mk t b p h r a e kk L Ld nk li sk scd hcd lcd sc ct ti si fl fa nt dgt cot lit y0 y1 y2 y3 y4 y5 br ss pS pD pC bP bH l1 l2 l3 l4 l5 bPd bHd opd f1d f2d l0d l1d l2d l3d l4d l5d sf0 pPt pHt pFt pTt pSt pDt pCt nm nmd vf0 kf0 hs rfl hst hlw⟩
  · obtain ⟨rfl, b⟩ := h9
    exact ⟨rfl, by rw [if_pos b]⟩
theorem n_X8_hasCurfew {Z : GZ} {l : Launch} (hl : l.stackTraces = false) {x : Nat → Nat} {N u tm : Nat} {er dg co : Int32} {pP pH pF pT op f1 f2 l0 tb : Nat → Int32} {hh c0 c1 c2 c3 : Nat → Nat} {q : Int32} {w0 : va_W} (hC : CI Z x N u tm er dg co pP pH pF pT op f1 f2 l0 hh c0 c1 c2 c3 tb w0) : Cq Z l yX8_hasCurfew cX8_hasCurfew 2 (some .boolean) (rmM 8 1 6) [.ref (x 0), .int q] w0 (fun v w => ((if ¬ hasB (nI N) q = true then 1 else 0) : Int32) = 0 ∧ v = some (.int (b2i (!decide (stAt (nI N) q pF (-1) = -1)))) ∧ CI Z x N u tm er dg co pP pH pF pT op f1 f2 l0 hh c0 c1 c2 c3 tb w) (fun E => (E = "java/lang/IndexOutOfBoundsException" ∧ ((if ¬ hasB (nI N) q = true then 1 else 0) : Int32) = 1)) := by
  refine CI.elim hC (fun t b p h r a e kk L Ld nk li sk scd hcd lcd sc ct ti si fl fa nt dgt cot lit y0 y1 y2 y3 y4 y5 br ss pS pD pC bP bH l1 l2 l3 l4 l5 bPd bHd opd f1d f2d l0d l1d l2d l3d l4d l5d sf0 pPt pHt pFt pTt pSt pDt pCt nm nmd vf0 kf0 hs e9 hst hlw => ?_)
  subst e9
  have hN := hs.1
  refine (c_X8_hasCurfew hl).weaken (fun v w h9 => ?_) (fun E h9 => ?_)
  · obtain ⟨rfl, rfl, g0⟩ := h9
    exact ⟨by rw [if_neg (fun z => z g0)], rfl, CI.mk t b p h r a e kk L Ld nk li sk scd hcd lcd sc ct ti si fl fa nt dgt cot lit y0 y1 y2 y3 y4 y5 br ss pS pD pC bP bH l1 l2 l3 l4 l5 bPd bHd opd f1d f2d l0d l1d l2d l3d l4d l5d sf0 pPt pHt pFt pTt pSt pDt pCt nm nmd vf0 kf0 hs rfl hst hlw⟩
  · obtain ⟨rfl, b⟩ := h9
    exact ⟨rfl, by rw [if_pos b]⟩
theorem n_X8_curfewFrom {Z : GZ} {l : Launch} (hl : l.stackTraces = false) {x : Nat → Nat} {N u tm : Nat} {er dg co : Int32} {pP pH pF pT op f1 f2 l0 tb : Nat → Int32} {hh c0 c1 c2 c3 : Nat → Nat} {q : Int32} {w0 : va_W} (hC : CI Z x N u tm er dg co pP pH pF pT op f1 f2 l0 hh c0 c1 c2 c3 tb w0) : Cq Z l yX8_curfewFrom cX8_curfewFrom 2 (some .int) (rmM 8 2 12) [.ref (x 0), .int q] w0 (fun v w => ((if ¬ hasB (nI N) q = true then 1 else (if stAt (nI N) q pF (-1) = -1 then 2 else 0)) : Int32) = 0 ∧ v = some (.int (stAt (nI N) q pF (-1))) ∧ CI Z x N u tm er dg co pP pH pF pT op f1 f2 l0 hh c0 c1 c2 c3 tb w) (fun E => (E = "java/lang/IndexOutOfBoundsException" ∧ ((if ¬ hasB (nI N) q = true then 1 else (if stAt (nI N) q pF (-1) = -1 then 2 else 0)) : Int32) = 1) ∨ (E = "java/lang/IllegalStateException" ∧ ((if ¬ hasB (nI N) q = true then 1 else (if stAt (nI N) q pF (-1) = -1 then 2 else 0)) : Int32) = 2)) := by
  refine CI.elim hC (fun t b p h r a e kk L Ld nk li sk scd hcd lcd sc ct ti si fl fa nt dgt cot lit y0 y1 y2 y3 y4 y5 br ss pS pD pC bP bH l1 l2 l3 l4 l5 bPd bHd opd f1d f2d l0d l1d l2d l3d l4d l5d sf0 pPt pHt pFt pTt pSt pDt pCt nm nmd vf0 kf0 hs e9 hst hlw => ?_)
  subst e9
  have hN := hs.1
  refine (c_X8_curfewFrom hl).weaken (fun v w h9 => ?_) (fun E h9 => ?_)
  · obtain ⟨rfl, rfl, g0, g1⟩ := h9
    exact ⟨by rw [if_neg (fun z => z g0), if_neg g1], rfl, CI.mk t b p h r a e kk L Ld nk li sk scd hcd lcd sc ct ti si fl fa nt dgt cot lit y0 y1 y2 y3 y4 y5 br ss pS pD pC bP bH l1 l2 l3 l4 l5 bPd bHd opd f1d f2d l0d l1d l2d l3d l4d l5d sf0 pPt pHt pFt pTt pSt pDt pCt nm nmd vf0 kf0 hs rfl hst hlw⟩
  · rcases h9 with ⟨rfl, b⟩ | ⟨rfl, g0, b⟩
    · exact Or.inl ⟨rfl, by rw [if_pos b]⟩
    · exact Or.inr <| ⟨rfl, by rw [if_neg (fun z => z g0), if_pos b]⟩
theorem n_X8_curfewTo {Z : GZ} {l : Launch} (hl : l.stackTraces = false) {x : Nat → Nat} {N u tm : Nat} {er dg co : Int32} {pP pH pF pT op f1 f2 l0 tb : Nat → Int32} {hh c0 c1 c2 c3 : Nat → Nat} {q : Int32} {w0 : va_W} (hC : CI Z x N u tm er dg co pP pH pF pT op f1 f2 l0 hh c0 c1 c2 c3 tb w0) : Cq Z l yX8_curfewTo cX8_curfewTo 2 (some .int) (rmM 8 2 12) [.ref (x 0), .int q] w0 (fun v w => ((if ¬ hasB (nI N) q = true then 1 else (if stAt (nI N) q pF (-1) = -1 then 2 else 0)) : Int32) = 0 ∧ v = some (.int (stAt (nI N) q pT (-1))) ∧ CI Z x N u tm er dg co pP pH pF pT op f1 f2 l0 hh c0 c1 c2 c3 tb w) (fun E => (E = "java/lang/IndexOutOfBoundsException" ∧ ((if ¬ hasB (nI N) q = true then 1 else (if stAt (nI N) q pF (-1) = -1 then 2 else 0)) : Int32) = 1) ∨ (E = "java/lang/IllegalStateException" ∧ ((if ¬ hasB (nI N) q = true then 1 else (if stAt (nI N) q pF (-1) = -1 then 2 else 0)) : Int32) = 2)) := by
  refine CI.elim hC (fun t b p h r a e kk L Ld nk li sk scd hcd lcd sc ct ti si fl fa nt dgt cot lit y0 y1 y2 y3 y4 y5 br ss pS pD pC bP bH l1 l2 l3 l4 l5 bPd bHd opd f1d f2d l0d l1d l2d l3d l4d l5d sf0 pPt pHt pFt pTt pSt pDt pCt nm nmd vf0 kf0 hs e9 hst hlw => ?_)
  subst e9
  have hN := hs.1
  refine (c_X8_curfewTo hl).weaken (fun v w h9 => ?_) (fun E h9 => ?_)
  · obtain ⟨rfl, rfl, g0, g1⟩ := h9
    exact ⟨by rw [if_neg (fun z => z g0), if_neg g1], rfl, CI.mk t b p h r a e kk L Ld nk li sk scd hcd lcd sc ct ti si fl fa nt dgt cot lit y0 y1 y2 y3 y4 y5 br ss pS pD pC bP bH l1 l2 l3 l4 l5 bPd bHd opd f1d f2d l0d l1d l2d l3d l4d l5d sf0 pPt pHt pFt pTt pSt pDt pCt nm nmd vf0 kf0 hs rfl hst hlw⟩
  · rcases h9 with ⟨rfl, b⟩ | ⟨rfl, g0, b⟩
    · exact Or.inl ⟨rfl, by rw [if_pos b]⟩
    · exact Or.inr <| ⟨rfl, by rw [if_neg (fun z => z g0), if_pos b]⟩
theorem n_X8_hoursLostTo {Z : GZ} {l : Launch} (hl : l.stackTraces = false) {x : Nat → Nat} {N u tm : Nat} {er dg co : Int32} {pP pH pF pT op f1 f2 l0 tb : Nat → Int32} {hh c0 c1 c2 c3 : Nat → Nat} {q : Int32} {g : Int32} {w0 : va_W} (hC : CI Z x N u tm er dg co pP pH pF pT op f1 f2 l0 hh c0 c1 c2 c3 tb w0) : Cq Z l yX8_hoursLostTo cX8_hoursLostTo 3 (some .int) (rmM 8 2 12) [.ref (x 0), .int q, .int g] w0 (fun v w => ((if ¬ hasB (nI N) q = true then 1 else (if ¬ hasB (nI N) g = true then 1 else 0)) : Int32) = 0 ∧ v = some (.int (bitC (shX N pP pH pF pT q g))) ∧ CI Z x N u tm er dg co pP pH pF pT op f1 f2 l0 hh c0 c1 c2 c3 tb w) (fun E => (E = "java/lang/IndexOutOfBoundsException" ∧ ((if ¬ hasB (nI N) q = true then 1 else (if ¬ hasB (nI N) g = true then 1 else 0)) : Int32) = 1)) := by
  refine CI.elim hC (fun t b p h r a e kk L Ld nk li sk scd hcd lcd sc ct ti si fl fa nt dgt cot lit y0 y1 y2 y3 y4 y5 br ss pS pD pC bP bH l1 l2 l3 l4 l5 bPd bHd opd f1d f2d l0d l1d l2d l3d l4d l5d sf0 pPt pHt pFt pTt pSt pDt pCt nm nmd vf0 kf0 hs e9 hst hlw => ?_)
  subst e9
  have hN := hs.1
  refine (c_X8_hoursLostTo hl).weaken (fun v w h9 => ?_) (fun E h9 => ?_)
  · obtain ⟨rfl, rfl, g0, g1⟩ := h9
    exact ⟨by rw [if_neg (fun z => z g0), if_neg (fun z => z g1)], congrArg (fun z => some (Value.int z)) (by rw [shF_X hN hst.1]), CI.mk t b p h r a e kk L Ld nk li sk scd hcd lcd sc ct ti si fl fa nt dgt cot lit y0 y1 y2 y3 y4 y5 br ss pS pD pC bP bH l1 l2 l3 l4 l5 bPd bHd opd f1d f2d l0d l1d l2d l3d l4d l5d sf0 pPt pHt pFt pTt pSt pDt pCt nm nmd vf0 kf0 hs rfl hst hlw⟩
  · rcases h9 with ⟨rfl, b⟩ | ⟨rfl, g0, b⟩
    · exact ⟨rfl, by rw [if_pos b]⟩
    · exact ⟨rfl, by rw [if_neg (fun z => z g0), if_pos b]⟩
theorem n_X8_heightAt {Z : GZ} {l : Launch} (hl : l.stackTraces = false) {x : Nat → Nat} {N u tm : Nat} {er dg co : Int32} {pP pH pF pT op f1 f2 l0 tb : Nat → Int32} {hh c0 c1 c2 c3 : Nat → Nat} {q : Int32} {g : Int32} {w0 : va_W} (hC : CI Z x N u tm er dg co pP pH pF pT op f1 f2 l0 hh c0 c1 c2 c3 tb w0) : Cq Z l yX8_heightAt cX8_heightAt 3 (some .int) (rmM 8 2 12) [.ref (x 0), .int q, .int g] w0 (fun v w => ((if ¬ hasB (nI N) q = true then 1 else (if (g < 0 ∨ 24 ≤ g) then 1 else 0)) : Int32) = 0 ∧ v = some (.int (wallF (nI N) pH pF pT q g)) ∧ CI Z x N u tm er dg co pP pH pF pT op f1 f2 l0 hh c0 c1 c2 c3 tb w) (fun E => (E = "java/lang/IndexOutOfBoundsException" ∧ ((if ¬ hasB (nI N) q = true then 1 else (if (g < 0 ∨ 24 ≤ g) then 1 else 0)) : Int32) = 1)) := by
  refine CI.elim hC (fun t b p h r a e kk L Ld nk li sk scd hcd lcd sc ct ti si fl fa nt dgt cot lit y0 y1 y2 y3 y4 y5 br ss pS pD pC bP bH l1 l2 l3 l4 l5 bPd bHd opd f1d f2d l0d l1d l2d l3d l4d l5d sf0 pPt pHt pFt pTt pSt pDt pCt nm nmd vf0 kf0 hs e9 hst hlw => ?_)
  subst e9
  have hN := hs.1
  refine (c_X8_heightAt hl).weaken (fun v w h9 => ?_) (fun E h9 => ?_)
  · obtain ⟨rfl, rfl, g0, g1⟩ := h9
    exact ⟨by rw [if_neg (fun z => z g0), if_neg g1], rfl, CI.mk t b p h r a e kk L Ld nk li sk scd hcd lcd sc ct ti si fl fa nt dgt cot lit y0 y1 y2 y3 y4 y5 br ss pS pD pC bP bH l1 l2 l3 l4 l5 bPd bHd opd f1d f2d l0d l1d l2d l3d l4d l5d sf0 pPt pHt pFt pTt pSt pDt pCt nm nmd vf0 kf0 hs rfl hst hlw⟩
  · rcases h9 with ⟨rfl, b⟩ | ⟨rfl, g0, b⟩
    · exact ⟨rfl, by rw [if_pos b]⟩
    · exact ⟨rfl, by rw [if_neg (fun z => z g0), if_pos b]⟩
theorem n_X8_shadowOf {Z : GZ} {l : Launch} (hl : l.stackTraces = false) {x : Nat → Nat} {N u tm : Nat} {er dg co : Int32} {pP pH pF pT op f1 f2 l0 tb : Nat → Int32} {hh c0 c1 c2 c3 : Nat → Nat} {q : Int32} {g : Int32} {w0 : va_W} (hC : CI Z x N u tm er dg co pP pH pF pT op f1 f2 l0 hh c0 c1 c2 c3 tb w0) : Cq Z l yX8_shadowOf cX8_shadowOf 3 (some .int) (rmM 8 2 12) [.ref (x 0), .int q, .int g] w0 (fun v w => ((if ¬ hasB (nI N) q = true then 1 else (if (g < 0 ∨ 24 ≤ g) then 1 else 0)) : Int32) = 0 ∧ v = some (.int (wallF (nI N) pH pF pT q g * stepsF g / 2)) ∧ CI Z x N u tm er dg co pP pH pF pT op f1 f2 l0 hh c0 c1 c2 c3 tb w) (fun E => (E = "java/lang/IndexOutOfBoundsException" ∧ ((if ¬ hasB (nI N) q = true then 1 else (if (g < 0 ∨ 24 ≤ g) then 1 else 0)) : Int32) = 1)) := by
  refine CI.elim hC (fun t b p h r a e kk L Ld nk li sk scd hcd lcd sc ct ti si fl fa nt dgt cot lit y0 y1 y2 y3 y4 y5 br ss pS pD pC bP bH l1 l2 l3 l4 l5 bPd bHd opd f1d f2d l0d l1d l2d l3d l4d l5d sf0 pPt pHt pFt pTt pSt pDt pCt nm nmd vf0 kf0 hs e9 hst hlw => ?_)
  subst e9
  have hN := hs.1
  refine (c_X8_shadowOf hl).weaken (fun v w h9 => ?_) (fun E h9 => ?_)
  · obtain ⟨rfl, rfl, g0, g1⟩ := h9
    exact ⟨by rw [if_neg (fun z => z g0), if_neg g1], rfl, CI.mk t b p h r a e kk L Ld nk li sk scd hcd lcd sc ct ti si fl fa nt dgt cot lit y0 y1 y2 y3 y4 y5 br ss pS pD pC bP bH l1 l2 l3 l4 l5 bPd bHd opd f1d f2d l0d l1d l2d l3d l4d l5d sf0 pPt pHt pFt pTt pSt pDt pCt nm nmd vf0 kf0 hs rfl hst hlw⟩
  · rcases h9 with ⟨rfl, b⟩ | ⟨rfl, g0, b⟩
    · exact ⟨rfl, by rw [if_pos b]⟩
    · exact ⟨rfl, by rw [if_neg (fun z => z g0), if_pos b]⟩
theorem n_X8_shades {Z : GZ} {l : Launch} (hl : l.stackTraces = false) {x : Nat → Nat} {N u tm : Nat} {er dg co : Int32} {pP pH pF pT op f1 f2 l0 tb : Nat → Int32} {hh c0 c1 c2 c3 : Nat → Nat} {q : Int32} {g : Int32} {h_ : Int32} {w0 : va_W} (hC : CI Z x N u tm er dg co pP pH pF pT op f1 f2 l0 hh c0 c1 c2 c3 tb w0) : Cq Z l yX8_shades cX8_shades 4 (some .boolean) (rmM 8 3 18) [.ref (x 0), .int q, .int g, .int h_] w0 (fun v w => ((if ¬ hasB (nI N) q = true then 1 else (if ¬ hasB (nI N) g = true then 1 else (if (h_ < 0 ∨ 24 ≤ h_) then 1 else 0))) : Int32) = 0 ∧ v = some (.int (b2i (hhX (shX N pP pH pF pT g q) h_))) ∧ CI Z x N u tm er dg co pP pH pF pT op f1 f2 l0 hh c0 c1 c2 c3 tb w) (fun E => (E = "java/lang/IndexOutOfBoundsException" ∧ ((if ¬ hasB (nI N) q = true then 1 else (if ¬ hasB (nI N) g = true then 1 else (if (h_ < 0 ∨ 24 ≤ h_) then 1 else 0))) : Int32) = 1)) := by
  refine CI.elim hC (fun t b p h r a e kk L Ld nk li sk scd hcd lcd sc ct ti si fl fa nt dgt cot lit y0 y1 y2 y3 y4 y5 br ss pS pD pC bP bH l1 l2 l3 l4 l5 bPd bHd opd f1d f2d l0d l1d l2d l3d l4d l5d sf0 pPt pHt pFt pTt pSt pDt pCt nm nmd vf0 kf0 hs e9 hst hlw => ?_)
  subst e9
  have hN := hs.1
  refine (c_X8_shades hl).weaken (fun v w h9 => ?_) (fun E h9 => ?_)
  · obtain ⟨rfl, rfl, g0, g1, g2⟩ := h9
    exact ⟨by rw [if_neg (fun z => z g0), if_neg (fun z => z g1), if_neg g2], congrArg (fun z => some (Value.int (b2i z))) (by rw [shF_X hN hst.1]), CI.mk t b p h r a e kk L Ld nk li sk scd hcd lcd sc ct ti si fl fa nt dgt cot lit y0 y1 y2 y3 y4 y5 br ss pS pD pC bP bH l1 l2 l3 l4 l5 bPd bHd opd f1d f2d l0d l1d l2d l3d l4d l5d sf0 pPt pHt pFt pTt pSt pDt pCt nm nmd vf0 kf0 hs rfl hst hlw⟩
  · rcases h9 with ⟨rfl, b⟩ | ⟨rfl, g0, b⟩ | ⟨rfl, g0, g1, b⟩
    · exact ⟨rfl, by rw [if_pos b]⟩
    · exact ⟨rfl, by rw [if_neg (fun z => z g0), if_pos b]⟩
    · exact ⟨rfl, by rw [if_neg (fun z => z g0), if_neg (fun z => z g1), if_pos b]⟩
theorem n_X8_isInTheDark {Z : GZ} {l : Launch} (hl : l.stackTraces = false) {x : Nat → Nat} {N u tm : Nat} {er dg co : Int32} {pP pH pF pT op f1 f2 l0 tb : Nat → Int32} {hh c0 c1 c2 c3 : Nat → Nat} {q : Int32} {g : Int32} {w0 : va_W} (hC : CI Z x N u tm er dg co pP pH pF pT op f1 f2 l0 hh c0 c1 c2 c3 tb w0) : Cq Z l yX8_isInTheDark cX8_isInTheDark 3 (some .boolean) (rmM 8 2 12) [.ref (x 0), .int q, .int g] w0 (fun v w => ((if ¬ hasB (nI N) q = true then 1 else (if (g < 0 ∨ 24 ≤ g) then 1 else 0)) : Int32) = 0 ∧ v = some (.int (b2i (hhX (stAt (nI N) q (dkG N pP pH pF pT) 0) g))) ∧ CI Z x N u tm er dg co pP pH pF pT op f1 f2 l0 hh c0 c1 c2 c3 tb w) (fun E => (E = "java/lang/IndexOutOfBoundsException" ∧ ((if ¬ hasB (nI N) q = true then 1 else (if (g < 0 ∨ 24 ≤ g) then 1 else 0)) : Int32) = 1)) := by
  refine CI.elim hC (fun t b p h r a e kk L Ld nk li sk scd hcd lcd sc ct ti si fl fa nt dgt cot lit y0 y1 y2 y3 y4 y5 br ss pS pD pC bP bH l1 l2 l3 l4 l5 bPd bHd opd f1d f2d l0d l1d l2d l3d l4d l5d sf0 pPt pHt pFt pTt pSt pDt pCt nm nmd vf0 kf0 hs e9 hst hlw => ?_)
  subst e9
  have hN := hs.1
  refine (c_X8_isInTheDark hl).weaken (fun v w h9 => ?_) (fun E h9 => ?_)
  · obtain ⟨rfl, rfl, g0, g1⟩ := h9
    exact ⟨by rw [if_neg (fun z => z g0), if_neg g1], congrArg (fun z => some (Value.int (b2i z))) (by rw [stAt_cong hN hst.2.1]), CI.mk t b p h r a e kk L Ld nk li sk scd hcd lcd sc ct ti si fl fa nt dgt cot lit y0 y1 y2 y3 y4 y5 br ss pS pD pC bP bH l1 l2 l3 l4 l5 bPd bHd opd f1d f2d l0d l1d l2d l3d l4d l5d sf0 pPt pHt pFt pTt pSt pDt pCt nm nmd vf0 kf0 hs rfl hst hlw⟩
  · rcases h9 with ⟨rfl, b⟩ | ⟨rfl, g0, b⟩
    · exact ⟨rfl, by rw [if_pos b]⟩
    · exact ⟨rfl, by rw [if_neg (fun z => z g0), if_pos b]⟩
theorem n_X8_shadedBy {Z : GZ} {l : Launch} (hl : l.stackTraces = false) {x : Nat → Nat} {N u tm : Nat} {er dg co : Int32} {pP pH pF pT op f1 f2 l0 tb : Nat → Int32} {hh c0 c1 c2 c3 : Nat → Nat} {q : Int32} {g : Int32} {w0 : va_W} (hC : CI Z x N u tm er dg co pP pH pF pT op f1 f2 l0 hh c0 c1 c2 c3 tb w0) : Cq Z l yX8_shadedBy cX8_shadedBy 7 (some .int) (rmM 8 3 18) [.ref (x 0), .int q, .int g] w0 (fun v w => ((if ¬ hasB (nI N) q = true then 1 else (if (g < 0 ∨ 24 ≤ g) then 1 else (if hhX (stAt (nI N) q (dkG N pP pH pF pT) 0) g = false then 2 else 0))) : Int32) = 0 ∧ v = some (.int (oN (sbM pP (fun k => shH pP pH pF pT q.toNatClampNeg k) q.toNatClampNeg g N))) ∧ CI Z x N u tm er dg co pP pH pF pT op f1 f2 l0 hh c0 c1 c2 c3 tb w) (fun E => (E = "java/lang/IndexOutOfBoundsException" ∧ ((if ¬ hasB (nI N) q = true then 1 else (if (g < 0 ∨ 24 ≤ g) then 1 else (if hhX (stAt (nI N) q (dkG N pP pH pF pT) 0) g = false then 2 else 0))) : Int32) = 1) ∨ (E = "java/lang/IllegalStateException" ∧ ((if ¬ hasB (nI N) q = true then 1 else (if (g < 0 ∨ 24 ≤ g) then 1 else (if hhX (stAt (nI N) q (dkG N pP pH pF pT) 0) g = false then 2 else 0))) : Int32) = 2)) := by
  refine CI.elim hC (fun t b p h r a e kk L Ld nk li sk scd hcd lcd sc ct ti si fl fa nt dgt cot lit y0 y1 y2 y3 y4 y5 br ss pS pD pC bP bH l1 l2 l3 l4 l5 bPd bHd opd f1d f2d l0d l1d l2d l3d l4d l5d sf0 pPt pHt pFt pTt pSt pDt pCt nm nmd vf0 kf0 hs e9 hst hlw => ?_)
  subst e9
  have hN := hs.1
  refine (c_X8_shadedBy hl hN).weaken (fun v w h9 => ?_) (fun E h9 => ?_)
  · obtain ⟨rfl, rfl, g0, g1, g2⟩ := h9
    exact ⟨by rw [if_neg (fun z => z g0), if_neg g1, if_neg (show ¬ hhX (stAt (nI N) q (dkG N pP pH pF pT) 0) g = false from by rw [← stAt_cong hN hst.2.1]; exact g2)], congrArg (fun z => some (Value.int z)) (by obtain ⟨i, hi, rfl⟩ := hasB_of hN g0; rw [nI_clamp (by omega)]; exact sb_eq hN hs.2.2.2.1 hi hst.1), CI.mk t b p h r a e kk L Ld nk li sk scd hcd lcd sc ct ti si fl fa nt dgt cot lit y0 y1 y2 y3 y4 y5 br ss pS pD pC bP bH l1 l2 l3 l4 l5 bPd bHd opd f1d f2d l0d l1d l2d l3d l4d l5d sf0 pPt pHt pFt pTt pSt pDt pCt nm nmd vf0 kf0 hs rfl hst hlw⟩
  · rcases h9 with ⟨rfl, b⟩ | ⟨rfl, g0, b⟩ | ⟨rfl, g0, g1, b⟩
    · exact Or.inl ⟨rfl, by rw [if_pos b]⟩
    · exact Or.inl ⟨rfl, by rw [if_neg (fun z => z g0), if_pos b]⟩
    · exact Or.inr <| ⟨rfl, by rw [if_neg (fun z => z g0), if_neg g1, if_pos (show hhX (stAt (nI N) q (dkG N pP pH pF pT) 0) g = false from by rw [← stAt_cong hN hst.2.1]; exact b)]⟩
theorem n_X8_housesInTheDark {Z : GZ} {l : Launch} (hl : l.stackTraces = false) {x : Nat → Nat} {N u tm : Nat} {er dg co : Int32} {pP pH pF pT op f1 f2 l0 tb : Nat → Int32} {hh c0 c1 c2 c3 : Nat → Nat} {q : Int32} {w0 : va_W} (hC : CI Z x N u tm er dg co pP pH pF pT op f1 f2 l0 hh c0 c1 c2 c3 tb w0) : Cq Z l yX8_housesInTheDark cX8_housesInTheDark 2 (some .int) (rmM 8 1 6) [.ref (x 0), .int q] w0 (fun v w => ((if (q < 0 ∨ 24 ≤ q) then 1 else 0) : Int32) = 0 ∧ v = some (.int (nI (cntN (dkB N (dkG N pP pH pF pT) q) N))) ∧ CI Z x N u tm er dg co pP pH pF pT op f1 f2 l0 hh c0 c1 c2 c3 tb w) (fun E => (E = "java/lang/IndexOutOfBoundsException" ∧ ((if (q < 0 ∨ 24 ≤ q) then 1 else 0) : Int32) = 1)) := by
  refine CI.elim hC (fun t b p h r a e kk L Ld nk li sk scd hcd lcd sc ct ti si fl fa nt dgt cot lit y0 y1 y2 y3 y4 y5 br ss pS pD pC bP bH l1 l2 l3 l4 l5 bPd bHd opd f1d f2d l0d l1d l2d l3d l4d l5d sf0 pPt pHt pFt pTt pSt pDt pCt nm nmd vf0 kf0 hs e9 hst hlw => ?_)
  subst e9
  have hN := hs.1
  refine (c_X8_housesInTheDark hl hN).weaken (fun v w h9 => ?_) (fun E h9 => ?_)
  · obtain ⟨rfl, rfl, g0⟩ := h9
    exact ⟨by rw [if_neg g0], congrArg (fun z => some (Value.int z)) (by rw [dkB_c hN hst.2.1]), CI.mk t b p h r a e kk L Ld nk li sk scd hcd lcd sc ct ti si fl fa nt dgt cot lit y0 y1 y2 y3 y4 y5 br ss pS pD pC bP bH l1 l2 l3 l4 l5 bPd bHd opd f1d f2d l0d l1d l2d l3d l4d l5d sf0 pPt pHt pFt pTt pSt pDt pCt nm nmd vf0 kf0 hs rfl hst hlw⟩
  · obtain ⟨rfl, b⟩ := h9
    exact ⟨rfl, by rw [if_pos b]⟩
theorem n_X8_worstHouse {Z : GZ} {l : Launch} (hl : l.stackTraces = false) {x : Nat → Nat} {N u tm : Nat} {er dg co : Int32} {pP pH pF pT op f1 f2 l0 tb : Nat → Int32} {hh c0 c1 c2 c3 : Nat → Nat} {w0 : va_W} (hC : CI Z x N u tm er dg co pP pH pF pT op f1 f2 l0 hh c0 c1 c2 c3 tb w0) : Cq Z l yX8_worstHouse cX8_worstHouse 3 (some .int) (rmM 8 1 6) [.ref (x 0)] w0 (fun v w => ((if nI N = 0 then 1 else 0) : Int32) = 0 ∧ v = some (.int (nI (amx (lsI N (dkG N pP pH pF pT)) N))) ∧ CI Z x N u tm er dg co pP pH pF pT op f1 f2 l0 hh c0 c1 c2 c3 tb w) (fun E => (E = "java/lang/IllegalStateException" ∧ ((if nI N = 0 then 1 else 0) : Int32) = 1)) := by
  refine CI.elim hC (fun t b p h r a e kk L Ld nk li sk scd hcd lcd sc ct ti si fl fa nt dgt cot lit y0 y1 y2 y3 y4 y5 br ss pS pD pC bP bH l1 l2 l3 l4 l5 bPd bHd opd f1d f2d l0d l1d l2d l3d l4d l5d sf0 pPt pHt pFt pTt pSt pDt pCt nm nmd vf0 kf0 hs e9 hst hlw => ?_)
  subst e9
  have hN := hs.1
  refine (c_X8_worstHouse hl hN).weaken (fun v w h9 => ?_) (fun E h9 => ?_)
  · obtain ⟨rfl, rfl, g0⟩ := h9
    exact ⟨by rw [if_neg g0], congrArg (fun z => some (Value.int z)) (by rw [lsI_c hN hst.2.1]), CI.mk t b p h r a e kk L Ld nk li sk scd hcd lcd sc ct ti si fl fa nt dgt cot lit y0 y1 y2 y3 y4 y5 br ss pS pD pC bP bH l1 l2 l3 l4 l5 bPd bHd opd f1d f2d l0d l1d l2d l3d l4d l5d sf0 pPt pHt pFt pTt pSt pDt pCt nm nmd vf0 kf0 hs rfl hst hlw⟩
  · obtain ⟨rfl, b⟩ := h9
    exact ⟨rfl, by rw [if_pos b]⟩
theorem n_X8_darkestWall {Z : GZ} {l : Launch} (hl : l.stackTraces = false) {x : Nat → Nat} {N u tm : Nat} {er dg co : Int32} {pP pH pF pT op f1 f2 l0 tb : Nat → Int32} {hh c0 c1 c2 c3 : Nat → Nat} {w0 : va_W} (hC : CI Z x N u tm er dg co pP pH pF pT op f1 f2 l0 hh c0 c1 c2 c3 tb w0) : Cq Z l yX8_darkestWall cX8_darkestWall 3 (some .int) (rmM 8 1 6) [.ref (x 0)] w0 (fun v w => ((if nI N = 0 then 1 else 0) : Int32) = 0 ∧ v = some (.int (nI (amx (csI N (csG N pP pH pF pT)) N))) ∧ CI Z x N u tm er dg co pP pH pF pT op f1 f2 l0 hh c0 c1 c2 c3 tb w) (fun E => (E = "java/lang/IllegalStateException" ∧ ((if nI N = 0 then 1 else 0) : Int32) = 1)) := by
  refine CI.elim hC (fun t b p h r a e kk L Ld nk li sk scd hcd lcd sc ct ti si fl fa nt dgt cot lit y0 y1 y2 y3 y4 y5 br ss pS pD pC bP bH l1 l2 l3 l4 l5 bPd bHd opd f1d f2d l0d l1d l2d l3d l4d l5d sf0 pPt pHt pFt pTt pSt pDt pCt nm nmd vf0 kf0 hs e9 hst hlw => ?_)
  subst e9
  have hN := hs.1
  refine (c_X8_darkestWall hl hN).weaken (fun v w h9 => ?_) (fun E h9 => ?_)
  · obtain ⟨rfl, rfl, g0⟩ := h9
    exact ⟨by rw [if_neg g0], congrArg (fun z => some (Value.int z)) (by rw [csI_c hN hst.2.2.1]), CI.mk t b p h r a e kk L Ld nk li sk scd hcd lcd sc ct ti si fl fa nt dgt cot lit y0 y1 y2 y3 y4 y5 br ss pS pD pC bP bH l1 l2 l3 l4 l5 bPd bHd opd f1d f2d l0d l1d l2d l3d l4d l5d sf0 pPt pHt pFt pTt pSt pDt pCt nm nmd vf0 kf0 hs rfl hst hlw⟩
  · obtain ⟨rfl, b⟩ := h9
    exact ⟨rfl, by rw [if_pos b]⟩
theorem n_X8_setCurfew {Z : GZ} {l : Launch} (hl : l.stackTraces = false) {x : Nat → Nat} {N u tm : Nat} {er dg co : Int32} {pP pH pF pT op f1 f2 l0 tb : Nat → Int32} {hh c0 c1 c2 c3 : Nat → Nat} {q : Int32} {fr_ : Int32} {to_ : Int32} {w0 : va_W} (hC : CI Z x N u tm er dg co pP pH pF pT op f1 f2 l0 hh c0 c1 c2 c3 tb w0) : Cq Z l yX8_setCurfew cX8_setCurfew 4 (some .int) (rmM 8 2 12) [.ref (x 0), .int q, .int fr_, .int to_] w0 (fun v w => ((if ¬ hasB (nI N) q = true then 1 else (if (fr_ < 6 ∨ 18 < to_ ∨ to_ < fr_) then 2 else 0)) : Int32) = 0 ∧ v = some (.int (laG N pP pH (upd pF q.toNatClampNeg fr_) (upd pT q.toNatClampNeg to_))) ∧ CI Z x N u tm er dg co pP pH (upd pF q.toNatClampNeg fr_) (upd pT q.toNatClampNeg to_) op f1 f2 l0 hh c0 c1 c2 c3 tb w) (fun E => (E = "java/lang/IndexOutOfBoundsException" ∧ ((if ¬ hasB (nI N) q = true then 1 else (if (fr_ < 6 ∨ 18 < to_ ∨ to_ < fr_) then 2 else 0)) : Int32) = 1) ∨ (E = "java/lang/IllegalArgumentException" ∧ ((if ¬ hasB (nI N) q = true then 1 else (if (fr_ < 6 ∨ 18 < to_ ∨ to_ < fr_) then 2 else 0)) : Int32) = 2)) := by
  refine CI.elim hC (fun t b p h r a e kk L Ld nk li sk scd hcd lcd sc ct ti si fl fa nt dgt cot lit y0 y1 y2 y3 y4 y5 br ss pS pD pC bP bH l1 l2 l3 l4 l5 bPd bHd opd f1d f2d l0d l1d l2d l3d l4d l5d sf0 pPt pHt pFt pTt pSt pDt pCt nm nmd vf0 kf0 hs e9 hst hlw => ?_)
  subst e9
  have hN := hs.1
  refine (c_X8_setCurfew hl hN hst).weaken (fun v w h9 => ?_) (fun E h9 => ?_)
  · obtain ⟨li2, S2, D2, C2, rfl, rfl, hok, g0, g1⟩ := h9
    exact ⟨by rw [if_neg (fun z => z g0), if_neg g1], congrArg (fun z => some (Value.int z)) (by rw [hok.2.2.2]), CI.mk t b p h r a e kk L Ld nk li2 sk scd hcd lcd sc ct ti si fl fa nt dgt cot lit y0 y1 y2 y3 y4 y5 br ss S2 D2 C2 bP bH l1 l2 l3 l4 l5 bPd bHd opd f1d f2d l0d l1d l2d l3d l4d l5d sf0 pPt pHt pFt pTt pSt pDt pCt nm nmd vf0 kf0 ⟨hN, hs.2.1, hs.2.2.1, hs.2.2.2.1, hs.2.2.2.2.1.up (fun e => cu_ne g1 e), hs.2.2.2.2.2⟩ rfl hok hlw⟩
  · rcases h9 with ⟨rfl, b⟩ | ⟨rfl, g0, b⟩
    · exact Or.inl ⟨rfl, by rw [if_pos b]⟩
    · exact Or.inr <| ⟨rfl, by rw [if_neg (fun z => z g0), if_pos b]⟩
theorem n_X8_endCurfew {Z : GZ} {l : Launch} (hl : l.stackTraces = false) {x : Nat → Nat} {N u tm : Nat} {er dg co : Int32} {pP pH pF pT op f1 f2 l0 tb : Nat → Int32} {hh c0 c1 c2 c3 : Nat → Nat} {q : Int32} {w0 : va_W} (hC : CI Z x N u tm er dg co pP pH pF pT op f1 f2 l0 hh c0 c1 c2 c3 tb w0) : Cq Z l yX8_endCurfew cX8_endCurfew 2 (some .int) (rmM 8 2 12) [.ref (x 0), .int q] w0 (fun v w => ((if ¬ hasB (nI N) q = true then 1 else (if stAt (nI N) q pF (-1) = -1 then 2 else 0)) : Int32) = 0 ∧ v = some (.int (laG N pP pH (upd pF q.toNatClampNeg (-1)) (upd pT q.toNatClampNeg (-1)))) ∧ CI Z x N u tm er dg co pP pH (upd pF q.toNatClampNeg (-1)) (upd pT q.toNatClampNeg (-1)) op f1 f2 l0 hh c0 c1 c2 c3 tb w) (fun E => (E = "java/lang/IndexOutOfBoundsException" ∧ ((if ¬ hasB (nI N) q = true then 1 else (if stAt (nI N) q pF (-1) = -1 then 2 else 0)) : Int32) = 1) ∨ (E = "java/lang/IllegalStateException" ∧ ((if ¬ hasB (nI N) q = true then 1 else (if stAt (nI N) q pF (-1) = -1 then 2 else 0)) : Int32) = 2)) := by
  refine CI.elim hC (fun t b p h r a e kk L Ld nk li sk scd hcd lcd sc ct ti si fl fa nt dgt cot lit y0 y1 y2 y3 y4 y5 br ss pS pD pC bP bH l1 l2 l3 l4 l5 bPd bHd opd f1d f2d l0d l1d l2d l3d l4d l5d sf0 pPt pHt pFt pTt pSt pDt pCt nm nmd vf0 kf0 hs e9 hst hlw => ?_)
  subst e9
  have hN := hs.1
  refine (c_X8_endCurfew hl hN hst).weaken (fun v w h9 => ?_) (fun E h9 => ?_)
  · obtain ⟨li2, S2, D2, C2, rfl, rfl, hok, g0, g1⟩ := h9
    exact ⟨by rw [if_neg (fun z => z g0), if_neg g1], congrArg (fun z => some (Value.int z)) (by rw [hok.2.2.2]), CI.mk t b p h r a e kk L Ld nk li2 sk scd hcd lcd sc ct ti si fl fa nt dgt cot lit y0 y1 y2 y3 y4 y5 br ss S2 D2 C2 bP bH l1 l2 l3 l4 l5 bPd bHd opd f1d f2d l0d l1d l2d l3d l4d l5d sf0 pPt pHt pFt pTt pSt pDt pCt nm nmd vf0 kf0 ⟨hN, hs.2.1, hs.2.2.1, hs.2.2.2.1, hs.2.2.2.2.1.up (fun _ => rfl), hs.2.2.2.2.2⟩ rfl hok hlw⟩
  · rcases h9 with ⟨rfl, b⟩ | ⟨rfl, g0, b⟩
    · exact Or.inl ⟨rfl, by rw [if_pos b]⟩
    · exact Or.inr <| ⟨rfl, by rw [if_neg (fun z => z g0), if_pos b]⟩
theorem n_X8_build {Z : GZ} {l : Launch} (hl : l.stackTraces = false) {x : Nat → Nat} {N u tm : Nat} {er dg co : Int32} {pP pH pF pT op f1 f2 l0 tb : Nat → Int32} {hh c0 c1 c2 c3 : Nat → Nat} {q : Int32} {x_ : Int32} {w0 : va_W} (hC : CI Z x N u tm er dg co pP pH pF pT op f1 f2 l0 hh c0 c1 c2 c3 tb w0) : Cq Z l yX8_build cX8_build 4 (some .int) (rmM 8 2 12) [.ref (x 0), .int q, .int x_] w0 (fun v w => ((if ¬ hasB (nI N) q = true then 1 else (if (x_ < 0 ∨ 30 < x_) then 2 else 0)) : Int32) = 0 ∧ v = some (.int (stAt (nI N) q pH 0)) ∧ CI Z x N u tm er dg co pP (upd pH q.toNatClampNeg x_) pF pT op f1 f2 l0 hh c0 c1 c2 c3 tb w) (fun E => (E = "java/lang/IndexOutOfBoundsException" ∧ ((if ¬ hasB (nI N) q = true then 1 else (if (x_ < 0 ∨ 30 < x_) then 2 else 0)) : Int32) = 1) ∨ (E = "java/lang/IllegalArgumentException" ∧ ((if ¬ hasB (nI N) q = true then 1 else (if (x_ < 0 ∨ 30 < x_) then 2 else 0)) : Int32) = 2)) := by
  refine CI.elim hC (fun t b p h r a e kk L Ld nk li sk scd hcd lcd sc ct ti si fl fa nt dgt cot lit y0 y1 y2 y3 y4 y5 br ss pS pD pC bP bH l1 l2 l3 l4 l5 bPd bHd opd f1d f2d l0d l1d l2d l3d l4d l5d sf0 pPt pHt pFt pTt pSt pDt pCt nm nmd vf0 kf0 hs e9 hst hlw => ?_)
  subst e9
  have hN := hs.1
  refine (c_X8_build hl hN hst).weaken (fun v w h9 => ?_) (fun E h9 => ?_)
  · obtain ⟨li2, S2, D2, C2, rfl, rfl, hok, g0, g1⟩ := h9
    exact ⟨by rw [if_neg (fun z => z g0), if_neg g1], rfl, CI.mk t b p h r a e kk L Ld nk li2 sk scd hcd lcd sc ct ti si fl fa nt dgt cot lit y0 y1 y2 y3 y4 y5 br ss S2 D2 C2 bP bH l1 l2 l3 l4 l5 bPd bHd opd f1d f2d l0d l1d l2d l3d l4d l5d sf0 pPt pHt pFt pTt pSt pDt pCt nm nmd vf0 kf0 hs rfl hok hlw⟩
  · rcases h9 with ⟨rfl, b⟩ | ⟨rfl, g0, b⟩
    · exact Or.inl ⟨rfl, by rw [if_pos b]⟩
    · exact Or.inr <| ⟨rfl, by rw [if_neg (fun z => z g0), if_pos b]⟩
theorem n_X8_move {Z : GZ} {l : Launch} (hl : l.stackTraces = false) {x : Nat → Nat} {N u tm : Nat} {er dg co : Int32} {pP pH pF pT op f1 f2 l0 tb : Nat → Int32} {hh c0 c1 c2 c3 : Nat → Nat} {q : Int32} {x_ : Int32} {w0 : va_W} (hC : CI Z x N u tm er dg co pP pH pF pT op f1 f2 l0 hh c0 c1 c2 c3 tb w0) : Cq Z l yX8_move cX8_move 4 (some .int) (rmM 8 3 18) [.ref (x 0), .int q, .int x_] w0 (fun v w => ((if ¬ hasB (nI N) q = true then 1 else (if (x_ < 0 ∨ 99 < x_) then 2 else (if (∃ j, j < N ∧ ¬ nI j = q ∧ stAt (nI N) (nI j) pP (-1) = x_) then 3 else 0))) : Int32) = 0 ∧ v = some (.int (stAt (nI N) q pP (-1))) ∧ CI Z x N u tm er dg co (upd pP q.toNatClampNeg x_) pH pF pT op f1 f2 l0 hh c0 c1 c2 c3 tb w) (fun E => (E = "java/lang/IndexOutOfBoundsException" ∧ ((if ¬ hasB (nI N) q = true then 1 else (if (x_ < 0 ∨ 99 < x_) then 2 else (if (∃ j, j < N ∧ ¬ nI j = q ∧ stAt (nI N) (nI j) pP (-1) = x_) then 3 else 0))) : Int32) = 1) ∨ (E = "java/lang/IllegalArgumentException" ∧ ((if ¬ hasB (nI N) q = true then 1 else (if (x_ < 0 ∨ 99 < x_) then 2 else (if (∃ j, j < N ∧ ¬ nI j = q ∧ stAt (nI N) (nI j) pP (-1) = x_) then 3 else 0))) : Int32) = 2) ∨ (E = "java/lang/IllegalStateException" ∧ ((if ¬ hasB (nI N) q = true then 1 else (if (x_ < 0 ∨ 99 < x_) then 2 else (if (∃ j, j < N ∧ ¬ nI j = q ∧ stAt (nI N) (nI j) pP (-1) = x_) then 3 else 0))) : Int32) = 3)) := by
  refine CI.elim hC (fun t b p h r a e kk L Ld nk li sk scd hcd lcd sc ct ti si fl fa nt dgt cot lit y0 y1 y2 y3 y4 y5 br ss pS pD pC bP bH l1 l2 l3 l4 l5 bPd bHd opd f1d f2d l0d l1d l2d l3d l4d l5d sf0 pPt pHt pFt pTt pSt pDt pCt nm nmd vf0 kf0 hs e9 hst hlw => ?_)
  subst e9
  have hN := hs.1
  refine (c_X8_move hl hN hst).weaken (fun v w h9 => ?_) (fun E h9 => ?_)
  · obtain ⟨li2, S2, D2, C2, rfl, rfl, hok, g0, g1, g2⟩ := h9
    exact ⟨by rw [if_neg (fun z => z g0), if_neg g1, if_neg g2], rfl, CI.mk t b p h r a e kk L Ld nk li2 sk scd hcd lcd sc ct ti si fl fa nt dgt cot lit y0 y1 y2 y3 y4 y5 br ss S2 D2 C2 bP bH l1 l2 l3 l4 l5 bPd bHd opd f1d f2d l0d l1d l2d l3d l4d l5d sf0 pPt pHt pFt pTt pSt pDt pCt nm nmd vf0 kf0 ⟨hN, hs.2.1, hs.2.2.1, hs.2.2.2.1.up g1, hs.2.2.2.2.1, hs.2.2.2.2.2⟩ rfl hok hlw⟩
  · rcases h9 with ⟨rfl, b⟩ | ⟨rfl, g0, b⟩ | ⟨rfl, g0, g1, b⟩
    · exact Or.inl ⟨rfl, by rw [if_pos b]⟩
    · exact Or.inr <| Or.inl ⟨rfl, by rw [if_neg (fun z => z g0), if_pos b]⟩
    · exact Or.inr <| Or.inr <| ⟨rfl, by rw [if_neg (fun z => z g0), if_neg g1, if_pos b]⟩
theorem n_X8_passDays {Z : GZ} {l : Launch} (hl : l.stackTraces = false) {x : Nat → Nat} {N u tm : Nat} {er dg co : Int32} {pP pH pF pT op f1 f2 l0 tb : Nat → Int32} {hh c0 c1 c2 c3 : Nat → Nat} {q : Int32} {w0 : va_W} (hC : CI Z x N u tm er dg co pP pH pF pT op f1 f2 l0 hh c0 c1 c2 c3 tb w0) : Cq Z l yX8_passDays cX8_passDays 4 (some .int) (rmM 12 1 6) [.ref (x 0), .int q] w0 (fun v w => ((if (q < 1 ∨ 30 < q) then 1 else 0) : Int32) = 0 ∧ v = some (.int ((dyN N pP op f1 f2 l0 hh c0 c1 c2 c3 u ((pH, pF, pT), co, dg) q.toNatClampNeg).2.1 - co)) ∧ CI Z x N u tm er ((dyN N pP op f1 f2 l0 hh c0 c1 c2 c3 u ((pH, pF, pT), co, dg) q.toNatClampNeg).2.2) ((dyN N pP op f1 f2 l0 hh c0 c1 c2 c3 u ((pH, pF, pT), co, dg) q.toNatClampNeg).2.1) pP ((dyN N pP op f1 f2 l0 hh c0 c1 c2 c3 u ((pH, pF, pT), co, dg) q.toNatClampNeg).1.1) ((dyN N pP op f1 f2 l0 hh c0 c1 c2 c3 u ((pH, pF, pT), co, dg) q.toNatClampNeg).1.2.1) ((dyN N pP op f1 f2 l0 hh c0 c1 c2 c3 u ((pH, pF, pT), co, dg) q.toNatClampNeg).1.2.2) op f1 f2 l0 hh c0 c1 c2 c3 tb w) (fun E => (E = "java/lang/IllegalArgumentException" ∧ ((if (q < 1 ∨ 30 < q) then 1 else 0) : Int32) = 1)) := by
  refine CI.elim hC (fun t b p h r a e kk L Ld nk li sk scd hcd lcd sc ct ti si fl fa nt dgt cot lit y0 y1 y2 y3 y4 y5 br ss pS pD pC bP bH l1 l2 l3 l4 l5 bPd bHd opd f1d f2d l0d l1d l2d l3d l4d l5d sf0 pPt pHt pFt pTt pSt pDt pCt nm nmd vf0 kf0 hs e9 hst hlw => ?_)
  subst e9
  have hN := hs.1
  refine (c_X8_passDays hl hN hst hs.2.1 hlw).weaken (fun v w h9 => ?_) (fun E h9 => ?_)
  · obtain ⟨sk9, ss9, co9, dg9, li9, pH9, pF9, pT9, pS9, pD9, pC9, hd, rfl, rfl, hok, g0⟩ := h9
    exact ⟨by rw [if_neg g0], congrArg (fun z => some (Value.int z)) (by rw [hd]), CI.mk t b p h r a e kk L Ld nk li9 sk9 scd hcd lcd sc ct ti si fl fa nt dgt cot lit y0 y1 y2 y3 y4 y5 br ss9 pS9 pD9 pC9 bP bH l1 l2 l3 l4 l5 bPd bHd opd f1d f2d l0d l1d l2d l3d l4d l5d sf0 pPt pHt pFt pTt pSt pDt pCt nm nmd vf0 kf0 ⟨hN, hs.2.1, hs.2.2.1, hs.2.2.2.1, dyN_FT hs.2.2.2.2.1 _, hs.2.2.2.2.2⟩ (by rw [hd]) (by rw [hd]; exact hok) hlw⟩
  · obtain ⟨rfl, b⟩ := h9
    exact ⟨rfl, by rw [if_pos b]⟩
theorem n_X8_lostAfter {Z : GZ} {l : Launch} (hl : l.stackTraces = false) {x : Nat → Nat} {N u tm : Nat} {er dg co : Int32} {pP pH pF pT op f1 f2 l0 tb : Nat → Int32} {hh c0 c1 c2 c3 : Nat → Nat} {q : Int32} {w0 : va_W} (hC : CI Z x N u tm er dg co pP pH pF pT op f1 f2 l0 hh c0 c1 c2 c3 tb w0) : Cq Z l yX8_lostAfter cX8_lostAfter 3 (some .int) (rmM 12 1 6) [.ref (x 0), .int q] w0 (fun v w => ((if (q < 1 ∨ 30 < q) then 1 else 0) : Int32) = 0 ∧ v = some (.int (lgD N pP (dyN N pP op f1 f2 l0 hh c0 c1 c2 c3 u ((pH, pF, pT), co, dg) q.toNatClampNeg))) ∧ CI Z x N u tm er dg co pP pH pF pT op f1 f2 l0 hh c0 c1 c2 c3 tb w) (fun E => (E = "java/lang/IllegalArgumentException" ∧ ((if (q < 1 ∨ 30 < q) then 1 else 0) : Int32) = 1)) := by
  refine CI.elim hC (fun t b p h r a e kk L Ld nk li sk scd hcd lcd sc ct ti si fl fa nt dgt cot lit y0 y1 y2 y3 y4 y5 br ss pS pD pC bP bH l1 l2 l3 l4 l5 bPd bHd opd f1d f2d l0d l1d l2d l3d l4d l5d sf0 pPt pHt pFt pTt pSt pDt pCt nm nmd vf0 kf0 hs e9 hst hlw => ?_)
  subst e9
  have hN := hs.1
  refine (c_X8_lostAfter hl hN hst hs.2.1 hlw).weaken (fun v w h9 => ?_) (fun E h9 => ?_)
  · obtain ⟨sk9, ss9, co9, dg9, li9, pH9, pF9, pT9, pS9, pD9, pC9, rfl, rfl, g0⟩ := h9
    exact ⟨by rw [if_neg g0], rfl, CI.mk t b p h r a e kk L Ld nk li sk9 scd hcd lcd sc ct ti si fl fa (nI N) dg9 co9 li9 y0 y1 y2 y3 y4 y5 br ss9 pS pD pC bP bH l1 l2 l3 l4 l5 bPd bHd opd f1d f2d l0d l1d l2d l3d l4d l5d sf0 pP pH9 pF9 pT9 pS9 pD9 pC9 nm nmd vf0 kf0 hs rfl hst hlw⟩
  · obtain ⟨rfl, b⟩ := h9
    exact ⟨rfl, by rw [if_pos b]⟩
theorem n_X8_fairCurfew {Z : GZ} {l : Launch} (hl : l.stackTraces = false) {x : Nat → Nat} {N u tm : Nat} {er dg co : Int32} {pP pH pF pT op f1 f2 l0 tb : Nat → Int32} {hh c0 c1 c2 c3 : Nat → Nat} {q : Int32} {g : Int32} {w0 : va_W} (hC : CI Z x N u tm er dg co pP pH pF pT op f1 f2 l0 hh c0 c1 c2 c3 tb w0) : Cq Z l yX8_fairCurfew cX8_fairCurfew 6 (some .int) (rmM 10 2 12) [.ref (x 0), .int q, .int g] w0 (fun v w => ((if ¬ hasB (nI N) q = true then 1 else (if (g < 1 ∨ 13 < g) then 2 else 0)) : Int32) = 0 ∧ v = some (.int ((frX (fcV N pP pH pF pT g.toNatClampNeg q.toNatClampNeg) (14 - g.toNatClampNeg)).1)) ∧ CI Z x N u tm er dg co pP pH pF pT op f1 f2 l0 hh c0 c1 c2 c3 tb w) (fun E => (E = "java/lang/IndexOutOfBoundsException" ∧ ((if ¬ hasB (nI N) q = true then 1 else (if (g < 1 ∨ 13 < g) then 2 else 0)) : Int32) = 1) ∨ (E = "java/lang/IllegalArgumentException" ∧ ((if ¬ hasB (nI N) q = true then 1 else (if (g < 1 ∨ 13 < g) then 2 else 0)) : Int32) = 2)) := by
  refine CI.elim hC (fun t b p h r a e kk L Ld nk li sk scd hcd lcd sc ct ti si fl fa nt dgt cot lit y0 y1 y2 y3 y4 y5 br ss pS pD pC bP bH l1 l2 l3 l4 l5 bPd bHd opd f1d f2d l0d l1d l2d l3d l4d l5d sf0 pPt pHt pFt pTt pSt pDt pCt nm nmd vf0 kf0 hs e9 hst hlw => ?_)
  subst e9
  have hN := hs.1
  refine (c_X8_fairCurfew hl hN hst).weaken (fun v w h9 => ?_) (fun E h9 => ?_)
  · obtain ⟨li9, pF9, pT9, pS9, pD9, pC9, rfl, rfl, g0, g1⟩ := h9
    exact ⟨by rw [if_neg (fun z => z g0), if_neg g1], rfl, CI.mk t b p h r a e kk L Ld nk li sk scd hcd lcd sc ct ti si fl fa (nI N) dg co li9 y0 y1 y2 y3 y4 y5 br ss pS pD pC bP bH l1 l2 l3 l4 l5 bPd bHd opd f1d f2d l0d l1d l2d l3d l4d l5d sf0 pP pH pF9 pT9 pS9 pD9 pC9 nm nmd vf0 kf0 hs rfl hst hlw⟩
  · rcases h9 with ⟨rfl, b⟩ | ⟨rfl, g0, b⟩
    · exact Or.inl ⟨rfl, by rw [if_pos b]⟩
    · exact Or.inr <| ⟨rfl, by rw [if_neg (fun z => z g0), if_pos b]⟩
theorem n_X8_fairestWall {Z : GZ} {l : Launch} (hl : l.stackTraces = false) {x : Nat → Nat} {N u tm : Nat} {er dg co : Int32} {pP pH pF pT op f1 f2 l0 tb : Nat → Int32} {hh c0 c1 c2 c3 : Nat → Nat} {g : Int32} {w0 : va_W} (hC : CI Z x N u tm er dg co pP pH pF pT op f1 f2 l0 hh c0 c1 c2 c3 tb w0) : Cq Z l yX8_fairestWall cX8_fairestWall 6 (some .int) (rmM 10 1 6) [.ref (x 0), .int g] w0 (fun v w => ((if (g < 1 ∨ 13 < g) then 1 else 0) : Int32) = 0 ∧ v = some (.int ((owX (fcV N pP pH pF pT g.toNatClampNeg) (14 - g.toNatClampNeg) (-1, laG N pP pH pF pT) N).1)) ∧ CI Z x N u tm er dg co pP pH pF pT op f1 f2 l0 hh c0 c1 c2 c3 tb w) (fun E => (E = "java/lang/IllegalArgumentException" ∧ ((if (g < 1 ∨ 13 < g) then 1 else 0) : Int32) = 1)) := by
  refine CI.elim hC (fun t b p h r a e kk L Ld nk li sk scd hcd lcd sc ct ti si fl fa nt dgt cot lit y0 y1 y2 y3 y4 y5 br ss pS pD pC bP bH l1 l2 l3 l4 l5 bPd bHd opd f1d f2d l0d l1d l2d l3d l4d l5d sf0 pPt pHt pFt pTt pSt pDt pCt nm nmd vf0 kf0 hs e9 hst hlw => ?_)
  subst e9
  have hN := hs.1
  refine (c_X8_fairestWall hl hN hst).weaken (fun v w h9 => ?_) (fun E h9 => ?_)
  · obtain ⟨n9, dg9, co9, li9, pP9, pH9, pF9, pT9, pS9, pD9, pC9, rfl, rfl, g0⟩ := h9
    exact ⟨by rw [if_neg g0], rfl, CI.mk t b p h r a e kk L Ld nk li sk scd hcd lcd sc ct ti si fl fa n9 dg9 co9 li9 y0 y1 y2 y3 y4 y5 br ss pS pD pC bP bH l1 l2 l3 l4 l5 bPd bHd opd f1d f2d l0d l1d l2d l3d l4d l5d sf0 pP9 pH9 pF9 pT9 pS9 pD9 pC9 nm nmd vf0 kf0 hs rfl hst hlw⟩
  · obtain ⟨rfl, b⟩ := h9
    exact ⟨rfl, by rw [if_pos b]⟩
theorem n_X8_feed {Z : GZ} {l : Launch} (hl : l.stackTraces = false) {x : Nat → Nat} {N u tm : Nat} {er dg co : Int32} {pP pH pF pT op f1 f2 l0 tb : Nat → Int32} {hh c0 c1 c2 c3 : Nat → Nat} {i0 : Int32} {i1 : Int32} {i2 : Int32} {i3 : Int32} {i4 : Int32} {w0 : va_W} (hC : CI Z x N u tm er dg co pP pH pF pT op f1 f2 l0 hh c0 c1 c2 c3 tb w0) : Cq Z l yX8_feed cX8_feed 6 (some .int) (rmM 8 1 6) [.ref (x 0), .int i0, .int i1, .int i2, .int i3, .int i4] w0 (fun v w => ((if ¬ tm ≤ 1980 then 1 else 0) : Int32) = 0 ∧ v = some (.int (nI (tm + 20))) ∧ CI Z x N u (tm + 20) er dg co pP pH pF pT op f1 f2 l0 hh c0 c1 c2 c3 (apF (apF (apF (apF (apF tb tm i0) (tm + 4) i1) (tm + 8) i2) (tm + 12) i3) (tm + 16) i4) w) (fun E => (E = "java/lang/IllegalStateException" ∧ ((if ¬ tm ≤ 1980 then 1 else 0) : Int32) = 1)) := by
  refine CI.elim hC (fun t b p h r a e kk L Ld nk li sk scd hcd lcd sc ct ti si fl fa nt dgt cot lit y0 y1 y2 y3 y4 y5 br ss pS pD pC bP bH l1 l2 l3 l4 l5 bPd bHd opd f1d f2d l0d l1d l2d l3d l4d l5d sf0 pPt pHt pFt pTt pSt pDt pCt nm nmd vf0 kf0 hs e9 hst hlw => ?_)
  subst e9
  have hN := hs.1
  refine (c_X8_feed hl hs.2.2.1).weaken (fun v w h9 => ?_) (fun E h9 => ?_)
  · obtain ⟨rfl, rfl, g0⟩ := h9
    exact ⟨by rw [if_neg (fun z => z g0)], rfl, CI.mk t b p h r a e kk L Ld nk li sk scd hcd lcd sc ct ti si fl fa nt dgt cot lit y0 y1 y2 y3 y4 y5 br ss pS pD pC bP bH l1 l2 l3 l4 l5 bPd bHd opd f1d f2d l0d l1d l2d l3d l4d l5d sf0 pPt pHt pFt pTt pSt pDt pCt nm nmd vf0 kf0 ⟨hN, hs.2.1, by omega, hs.2.2.2⟩ rfl hst hlw⟩
  · obtain ⟨rfl, b⟩ := h9
    exact ⟨rfl, by rw [if_pos b]⟩
theorem n_X8_trim {Z : GZ} {l : Launch} (hl : l.stackTraces = false) {x : Nat → Nat} {N u tm : Nat} {er dg co : Int32} {pP pH pF pT op f1 f2 l0 tb : Nat → Int32} {hh c0 c1 c2 c3 : Nat → Nat} {q : Int32} {w0 : va_W} (hC : CI Z x N u tm er dg co pP pH pF pT op f1 f2 l0 hh c0 c1 c2 c3 tb w0) : Cq Z l yX8_trim cX8_trim 2 (some .int) (rmM 8 1 6) [.ref (x 0), .int q] w0 (fun v w => ((if (q < 0 ∨ nI tm < q) then 1 else 0) : Int32) = 0 ∧ v = some (.int (q)) ∧ CI Z x N u q.toNatClampNeg er dg co pP pH pF pT op f1 f2 l0 hh c0 c1 c2 c3 tb w) (fun E => (E = "java/lang/IllegalArgumentException" ∧ ((if (q < 0 ∨ nI tm < q) then 1 else 0) : Int32) = 1)) := by
  refine CI.elim hC (fun t b p h r a e kk L Ld nk li sk scd hcd lcd sc ct ti si fl fa nt dgt cot lit y0 y1 y2 y3 y4 y5 br ss pS pD pC bP bH l1 l2 l3 l4 l5 bPd bHd opd f1d f2d l0d l1d l2d l3d l4d l5d sf0 pPt pHt pFt pTt pSt pDt pCt nm nmd vf0 kf0 hs e9 hst hlw => ?_)
  subst e9
  have hN := hs.1
  refine (c_X8_trim hl).weaken (fun v w h9 => ?_) (fun E h9 => ?_)
  · obtain ⟨rfl, rfl, g0⟩ := h9
    have htm := hs.2.2.1
    obtain ⟨t9, ht9, rfl⟩ := in_nI (by have := hs.2.2.1; omega) g0
    exact ⟨by rw [if_neg g0], rfl, CI.mk t b p h r a e kk L Ld nk li sk scd hcd lcd sc ct ti si fl fa nt dgt cot lit y0 y1 y2 y3 y4 y5 br ss pS pD pC bP bH l1 l2 l3 l4 l5 bPd bHd opd f1d f2d l0d l1d l2d l3d l4d l5d sf0 pPt pHt pFt pTt pSt pDt pCt nm nmd vf0 kf0 ⟨hN, hs.2.1, by rw [nI_clamp (by omega)]; omega, hs.2.2.2⟩ (by rw [nI_clamp (by omega)]) hst hlw⟩
  · obtain ⟨rfl, b⟩ := h9
    exact ⟨rfl, by rw [if_pos b]⟩
theorem n_X8_houses {Z : GZ} {l : Launch} {x : Nat → Nat} {N u tm : Nat} {er dg co : Int32} {pP pH pF pT op f1 f2 l0 tb : Nat → Int32} {hh c0 c1 c2 c3 : Nat → Nat} {w0 : va_W} (hC : CI Z x N u tm er dg co pP pH pF pT op f1 f2 l0 hh c0 c1 c2 c3 tb w0) : Ct Z l yX8_houses cX8_houses 1 (some .int) (rmK 0) [.ref (x 0)] w0 (fun v w => v = some (.int (nI N)) ∧ CI Z x N u tm er dg co pP pH pF pT op f1 f2 l0 hh c0 c1 c2 c3 tb w) := by
  refine CI.elim hC (fun t b p h r a e kk L Ld nk li sk scd hcd lcd sc ct ti si fl fa nt dgt cot lit y0 y1 y2 y3 y4 y5 br ss pS pD pC bP bH l1 l2 l3 l4 l5 bPd bHd opd f1d f2d l0d l1d l2d l3d l4d l5d sf0 pPt pHt pFt pTt pSt pDt pCt nm nmd vf0 kf0 hs e9 hst hlw => ?_)
  subst e9
  have hN := hs.1
  refine (c_X8_houses ).weaken (fun v w h9 => ?_)
  obtain ⟨rfl, rfl⟩ := h9
  exact ⟨rfl, CI.mk t b p h r a e kk L Ld nk li sk scd hcd lcd sc ct ti si fl fa nt dgt cot lit y0 y1 y2 y3 y4 y5 br ss pS pD pC bP bH l1 l2 l3 l4 l5 bPd bHd opd f1d f2d l0d l1d l2d l3d l4d l5d sf0 pPt pHt pFt pTt pSt pDt pCt nm nmd vf0 kf0 hs rfl hst hlw⟩
theorem n_X8_laws {Z : GZ} {l : Launch} {x : Nat → Nat} {N u tm : Nat} {er dg co : Int32} {pP pH pF pT op f1 f2 l0 tb : Nat → Int32} {hh c0 c1 c2 c3 : Nat → Nat} {w0 : va_W} (hC : CI Z x N u tm er dg co pP pH pF pT op f1 f2 l0 hh c0 c1 c2 c3 tb w0) : Ct Z l yX8_laws cX8_laws 1 (some .int) (rmK 0) [.ref (x 0)] w0 (fun v w => v = some (.int (nI u)) ∧ CI Z x N u tm er dg co pP pH pF pT op f1 f2 l0 hh c0 c1 c2 c3 tb w) := by
  refine CI.elim hC (fun t b p h r a e kk L Ld nk li sk scd hcd lcd sc ct ti si fl fa nt dgt cot lit y0 y1 y2 y3 y4 y5 br ss pS pD pC bP bH l1 l2 l3 l4 l5 bPd bHd opd f1d f2d l0d l1d l2d l3d l4d l5d sf0 pPt pHt pFt pTt pSt pDt pCt nm nmd vf0 kf0 hs e9 hst hlw => ?_)
  subst e9
  have hN := hs.1
  refine (c_X8_laws ).weaken (fun v w h9 => ?_)
  obtain ⟨rfl, rfl⟩ := h9
  exact ⟨rfl, CI.mk t b p h r a e kk L Ld nk li sk scd hcd lcd sc ct ti si fl fa nt dgt cot lit y0 y1 y2 y3 y4 y5 br ss pS pD pC bP bH l1 l2 l3 l4 l5 bPd bHd opd f1d f2d l0d l1d l2d l3d l4d l5d sf0 pPt pHt pFt pTt pSt pDt pCt nm nmd vf0 kf0 hs rfl hst hlw⟩
theorem n_X8_days {Z : GZ} {l : Launch} {x : Nat → Nat} {N u tm : Nat} {er dg co : Int32} {pP pH pF pT op f1 f2 l0 tb : Nat → Int32} {hh c0 c1 c2 c3 : Nat → Nat} {w0 : va_W} (hC : CI Z x N u tm er dg co pP pH pF pT op f1 f2 l0 hh c0 c1 c2 c3 tb w0) : Ct Z l yX8_days cX8_days 1 (some .int) (rmK 0) [.ref (x 0)] w0 (fun v w => v = some (.int (dg)) ∧ CI Z x N u tm er dg co pP pH pF pT op f1 f2 l0 hh c0 c1 c2 c3 tb w) := by
  refine CI.elim hC (fun t b p h r a e kk L Ld nk li sk scd hcd lcd sc ct ti si fl fa nt dgt cot lit y0 y1 y2 y3 y4 y5 br ss pS pD pC bP bH l1 l2 l3 l4 l5 bPd bHd opd f1d f2d l0d l1d l2d l3d l4d l5d sf0 pPt pHt pFt pTt pSt pDt pCt nm nmd vf0 kf0 hs e9 hst hlw => ?_)
  subst e9
  have hN := hs.1
  refine (c_X8_days ).weaken (fun v w h9 => ?_)
  obtain ⟨rfl, rfl⟩ := h9
  exact ⟨rfl, CI.mk t b p h r a e kk L Ld nk li sk scd hcd lcd sc ct ti si fl fa nt dgt cot lit y0 y1 y2 y3 y4 y5 br ss pS pD pC bP bH l1 l2 l3 l4 l5 bPd bHd opd f1d f2d l0d l1d l2d l3d l4d l5d sf0 pPt pHt pFt pTt pSt pDt pCt nm nmd vf0 kf0 hs rfl hst hlw⟩
theorem n_X8_lawsCarriedOut {Z : GZ} {l : Launch} {x : Nat → Nat} {N u tm : Nat} {er dg co : Int32} {pP pH pF pT op f1 f2 l0 tb : Nat → Int32} {hh c0 c1 c2 c3 : Nat → Nat} {w0 : va_W} (hC : CI Z x N u tm er dg co pP pH pF pT op f1 f2 l0 hh c0 c1 c2 c3 tb w0) : Ct Z l yX8_lawsCarriedOut cX8_lawsCarriedOut 1 (some .int) (rmK 0) [.ref (x 0)] w0 (fun v w => v = some (.int (co)) ∧ CI Z x N u tm er dg co pP pH pF pT op f1 f2 l0 hh c0 c1 c2 c3 tb w) := by
  refine CI.elim hC (fun t b p h r a e kk L Ld nk li sk scd hcd lcd sc ct ti si fl fa nt dgt cot lit y0 y1 y2 y3 y4 y5 br ss pS pD pC bP bH l1 l2 l3 l4 l5 bPd bHd opd f1d f2d l0d l1d l2d l3d l4d l5d sf0 pPt pHt pFt pTt pSt pDt pCt nm nmd vf0 kf0 hs e9 hst hlw => ?_)
  subst e9
  have hN := hs.1
  refine (c_X8_lawsCarriedOut ).weaken (fun v w h9 => ?_)
  obtain ⟨rfl, rfl⟩ := h9
  exact ⟨rfl, CI.mk t b p h r a e kk L Ld nk li sk scd hcd lcd sc ct ti si fl fa nt dgt cot lit y0 y1 y2 y3 y4 y5 br ss pS pD pC bP bH l1 l2 l3 l4 l5 bPd bHd opd f1d f2d l0d l1d l2d l3d l4d l5d sf0 pPt pHt pFt pTt pSt pDt pCt nm nmd vf0 kf0 hs rfl hst hlw⟩
theorem n_X8_allHoursLost {Z : GZ} {l : Launch} {x : Nat → Nat} {N u tm : Nat} {er dg co : Int32} {pP pH pF pT op f1 f2 l0 tb : Nat → Int32} {hh c0 c1 c2 c3 : Nat → Nat} {w0 : va_W} (hC : CI Z x N u tm er dg co pP pH pF pT op f1 f2 l0 hh c0 c1 c2 c3 tb w0) : Ct Z l yX8_allHoursLost cX8_allHoursLost 1 (some .int) (rmK 0) [.ref (x 0)] w0 (fun v w => v = some (.int (laG N pP pH pF pT)) ∧ CI Z x N u tm er dg co pP pH pF pT op f1 f2 l0 hh c0 c1 c2 c3 tb w) := by
  refine CI.elim hC (fun t b p h r a e kk L Ld nk li sk scd hcd lcd sc ct ti si fl fa nt dgt cot lit y0 y1 y2 y3 y4 y5 br ss pS pD pC bP bH l1 l2 l3 l4 l5 bPd bHd opd f1d f2d l0d l1d l2d l3d l4d l5d sf0 pPt pHt pFt pTt pSt pDt pCt nm nmd vf0 kf0 hs e9 hst hlw => ?_)
  subst e9
  have hN := hs.1
  refine (c_X8_allHoursLost ).weaken (fun v w h9 => ?_)
  obtain ⟨rfl, rfl⟩ := h9
  exact ⟨congrArg (fun z => some (Value.int z)) (by rw [hst.2.2.2]), CI.mk t b p h r a e kk L Ld nk li sk scd hcd lcd sc ct ti si fl fa nt dgt cot lit y0 y1 y2 y3 y4 y5 br ss pS pD pC bP bH l1 l2 l3 l4 l5 bPd bHd opd f1d f2d l0d l1d l2d l3d l4d l5d sf0 pPt pHt pFt pTt pSt pDt pCt nm nmd vf0 kf0 hs rfl hst hlw⟩
theorem n_X8_lightHouses {Z : GZ} {l : Launch} {x : Nat → Nat} {N u tm : Nat} {er dg co : Int32} {pP pH pF pT op f1 f2 l0 tb : Nat → Int32} {hh c0 c1 c2 c3 : Nat → Nat} {w0 : va_W} (hC : CI Z x N u tm er dg co pP pH pF pT op f1 f2 l0 hh c0 c1 c2 c3 tb w0) : Ct Z l yX8_lightHouses cX8_lightHouses 3 (some .int) (rmK 3) [.ref (x 0)] w0 (fun v w => v = some (.int (nI (cntN (ltB N (dkG N pP pH pF pT)) N))) ∧ CI Z x N u tm er dg co pP pH pF pT op f1 f2 l0 hh c0 c1 c2 c3 tb w) := by
  refine CI.elim hC (fun t b p h r a e kk L Ld nk li sk scd hcd lcd sc ct ti si fl fa nt dgt cot lit y0 y1 y2 y3 y4 y5 br ss pS pD pC bP bH l1 l2 l3 l4 l5 bPd bHd opd f1d f2d l0d l1d l2d l3d l4d l5d sf0 pPt pHt pFt pTt pSt pDt pCt nm nmd vf0 kf0 hs e9 hst hlw => ?_)
  subst e9
  have hN := hs.1
  refine (c_X8_lightHouses hN).weaken (fun v w h9 => ?_)
  obtain ⟨rfl, rfl⟩ := h9
  exact ⟨congrArg (fun z => some (Value.int z)) (by rw [ltB_c hN hst.2.1]), CI.mk t b p h r a e kk L Ld nk li sk scd hcd lcd sc ct ti si fl fa nt dgt cot lit y0 y1 y2 y3 y4 y5 br ss pS pD pC bP bH l1 l2 l3 l4 l5 bPd bHd opd f1d f2d l0d l1d l2d l3d l4d l5d sf0 pPt pHt pFt pTt pSt pDt pCt nm nmd vf0 kf0 hs rfl hst hlw⟩
theorem n_X8_daysUntilLight {Z : GZ} {l : Launch} {x : Nat → Nat} {N u tm : Nat} {er dg co : Int32} {pP pH pF pT op f1 f2 l0 tb : Nat → Int32} {hh c0 c1 c2 c3 : Nat → Nat} {w0 : va_W} (hC : CI Z x N u tm er dg co pP pH pF pT op f1 f2 l0 hh c0 c1 c2 c3 tb w0) : Ct Z l yX8_daysUntilLight cX8_daysUntilLight 2 (some .int) (rmK 10) [.ref (x 0)] w0 (fun v w => v = some (.int (duX N pP op f1 f2 l0 hh c0 c1 c2 c3 u ((pH, pF, pT), co, dg))) ∧ CI Z x N u tm er dg co pP pH pF pT op f1 f2 l0 hh c0 c1 c2 c3 tb w) := by
  refine CI.elim hC (fun t b p h r a e kk L Ld nk li sk scd hcd lcd sc ct ti si fl fa nt dgt cot lit y0 y1 y2 y3 y4 y5 br ss pS pD pC bP bH l1 l2 l3 l4 l5 bPd bHd opd f1d f2d l0d l1d l2d l3d l4d l5d sf0 pPt pHt pFt pTt pSt pDt pCt nm nmd vf0 kf0 hs e9 hst hlw => ?_)
  subst e9
  have hN := hs.1
  refine (c_X8_daysUntilLight hN hst hs.2.1 hlw).weaken (fun v w h9 => ?_)
  obtain ⟨sk9, ss9, co9, dg9, li9, pH9, pF9, pT9, pS9, pD9, pC9, rfl, rfl⟩ := h9
  exact ⟨rfl, CI.mk t b p h r a e kk L Ld nk li sk9 scd hcd lcd sc ct ti si fl fa (nI N) dg9 co9 li9 y0 y1 y2 y3 y4 y5 br ss9 pS pD pC bP bH l1 l2 l3 l4 l5 bPd bHd opd f1d f2d l0d l1d l2d l3d l4d l5d sf0 pP pH9 pF9 pT9 pS9 pD9 pC9 nm nmd vf0 kf0 hs rfl hst hlw⟩
theorem n_X8_meanLost {Z : GZ} {l : Launch} {x : Nat → Nat} {N u tm : Nat} {er dg co : Int32} {pP pH pF pT op f1 f2 l0 tb : Nat → Int32} {hh c0 c1 c2 c3 : Nat → Nat} {w0 : va_W} (hC : CI Z x N u tm er dg co pP pH pF pT op f1 f2 l0 hh c0 c1 c2 c3 tb w0) : Ct Z l yX8_meanLost cX8_meanLost 1 (some .double) (rmK 0) [.ref (x 0)] w0 (fun v w => v = some (.double (mlX N (laG N pP pH pF pT))) ∧ CI Z x N u tm er dg co pP pH pF pT op f1 f2 l0 hh c0 c1 c2 c3 tb w) := by
  refine CI.elim hC (fun t b p h r a e kk L Ld nk li sk scd hcd lcd sc ct ti si fl fa nt dgt cot lit y0 y1 y2 y3 y4 y5 br ss pS pD pC bP bH l1 l2 l3 l4 l5 bPd bHd opd f1d f2d l0d l1d l2d l3d l4d l5d sf0 pPt pHt pFt pTt pSt pDt pCt nm nmd vf0 kf0 hs e9 hst hlw => ?_)
  subst e9
  have hN := hs.1
  obtain ⟨t0, ht0, e0⟩ := la_nat (P := pP) (H := pH) (F := pF) (T := pT) hN hs.2.2.2.1 hs.2.2.2.2.1
  obtain rfl : li = nI t0 := hst.2.2.2.trans e0
  refine (c_X8_meanLost (t0 := t0) hN (by omega)).weaken (fun v w h9 => ?_)
  obtain ⟨rfl, rfl⟩ := h9
  exact ⟨congrArg (fun z => some (Value.double z)) (by rw [hst.2.2.2, e0]), CI.mk t b p h r a e kk L Ld nk (nI t0) sk scd hcd lcd sc ct ti si fl fa nt dgt cot lit y0 y1 y2 y3 y4 y5 br ss pS pD pC bP bH l1 l2 l3 l4 l5 bPd bHd opd f1d f2d l0d l1d l2d l3d l4d l5d sf0 pPt pHt pFt pTt pSt pDt pCt nm nmd vf0 kf0 hs rfl hst hlw⟩
theorem n_X8_digest {Z : GZ} {l : Launch} {x : Nat → Nat} {N u tm : Nat} {er dg co : Int32} {pP pH pF pT op f1 f2 l0 tb : Nat → Int32} {hh c0 c1 c2 c3 : Nat → Nat} {w0 : va_W} (hC : CI Z x N u tm er dg co pP pH pF pT op f1 f2 l0 hh c0 c1 c2 c3 tb w0) : Ct Z l yX8_digest cX8_digest 5 (some .long) (rmK 5) [.ref (x 0)] w0 (fun v w => v = some (.long (dgCn N u dg co pP pH pF pT)) ∧ CI Z x N u tm er dg co pP pH pF pT op f1 f2 l0 hh c0 c1 c2 c3 tb w) := by
  refine CI.elim hC (fun t b p h r a e kk L Ld nk li sk scd hcd lcd sc ct ti si fl fa nt dgt cot lit y0 y1 y2 y3 y4 y5 br ss pS pD pC bP bH l1 l2 l3 l4 l5 bPd bHd opd f1d f2d l0d l1d l2d l3d l4d l5d sf0 pPt pHt pFt pTt pSt pDt pCt nm nmd vf0 kf0 hs e9 hst hlw => ?_)
  subst e9
  have hN := hs.1
  refine (c_X8_digest hN).weaken (fun v w h9 => ?_)
  obtain ⟨rfl, rfl⟩ := h9
  exact ⟨congrArg (fun z => some (Value.long z)) (dgCn_eq hN hst), CI.mk t b p h r a e kk L Ld nk li sk scd hcd lcd sc ct ti si fl fa nt dgt cot lit y0 y1 y2 y3 y4 y5 br ss pS pD pC bP bH l1 l2 l3 l4 l5 bPd bHd opd f1d f2d l0d l1d l2d l3d l4d l5d sf0 pPt pHt pFt pTt pSt pDt pCt nm nmd vf0 kf0 hs rfl hst hlw⟩
