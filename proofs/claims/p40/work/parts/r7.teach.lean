/-- what reading the told text must give -/
def RdOk (Z : GZ) (tm : Nat) (tb : Nat → Int32) : Prop := ∀ (sf0 opd f1d f2d bPd bHd l0d l1d l2d l3d l4d l5d : Nat → Int32) (nmd vf0 : Nat → Int64), ∃ (i2 s2 : Nat) (b2 : Bool) (a2 : Int32) (o2 g2 j2 bP2 bH2 l0x2 l1x2 l2x2 l3x2 l4x2 l5x2 : Nat → Int32) (nm2 : Nat → Int64) (c0 c1 c2 c3 : Nat → Nat),
  readR (tkT tm tb) (sfF tm tb sf0 (tL tm tb + 1)) (vfF tm tb vf0 (tL tm tb + 1)) 400 ((0, false, 0, -1, 0, opd, f1d, f2d), 0, nmd, bPd, bHd, 0, l0d, l1d, l2d, l3d, l4d, l5d) = ((i2, b2, 0, a2, s2, o2, g2, j2), toN Z, nm2, bP2, bH2, toM Z, l0x2, l1x2, l2x2, l3x2, l4x2, l5x2)
  ∧ (∀ i, i < toN Z → bP2 i = nI (toP Z i) ∧ bH2 i = nI (toH Z i))
  ∧ (∀ k, k < toM Z → l1x2 k = nI (toV Z k) ∧ l2x2 k = nI (c0 k) ∧ l3x2 k = nI (c1 k) ∧ l4x2 k = nI (c2 k) ∧ l5x2 k = nI (c3 k) ∧ c0 k ≤ 400 ∧ c1 k ≤ 400 ∧ c2 k ≤ 400 ∧ c3 k ≤ 400)
  ∧ ∀ (o g j l0 : Nat → Int32), (∀ i, i < s2 → o i = o2 i ∧ g i = g2 i ∧ j i = j2 i) → (∀ k, k < toM Z → l0 k = l0x2 k) → DayOk Z o g j l0 (toV Z) c0 c1 c2 c3 (toM Z)
theorem sn_told (Z : GZ) : SnOk (toN Z) (toP Z) (toH Z) zzN zzN := ⟨by have := toN_in Z; omega, fun i _ => ⟨toP_lt Z i, toH_le Z i, Or.inl ⟨rfl, rfl⟩⟩⟩
theorem n_X8_teach {Z : GZ} {l : Launch} {x : Nat → Nat} {N u tm : Nat} {er dg co : Int32} {pP pH pF pT op f1 f2 l0 tb : Nat → Int32} {hh c0 c1 c2 c3 : Nat → Nat} {w0 : va_W} (hC : CI Z x N u tm er dg co pP pH pF pT op f1 f2 l0 hh c0 c1 c2 c3 tb w0) (hR : RdOk Z tm tb) : Ct Z l yX8_teach cX8_teach 2 (some .int) (rmK 45) [.ref (x 0)] w0 (fun v w => v = some (.int 0) ∧ ∃ (pP' pH' pF' pT' op' f1' f2' l0' : Nat → Int32) (c0' c1' c2' c3' : Nat → Nat), CI Z x (toN Z) (toM Z) 0 (-1) 0 0 pP' pH' pF' pT' op' f1' f2' l0' (toV Z) c0' c1' c2' c3' tb w ∧ EqS (toN Z) pP' pH' pF' pT' (toP Z) (toH Z) zzN zzN ∧ DayOk Z op' f1' f2' l0' (toV Z) c0' c1' c2' c3' (toM Z)) := by
  refine CI.elim hC (fun t b p h r a e kk L Ld nk li sk scd hcd lcd sc ct ti si fl fa nt dgt cot lit y0 y1 y2 y3 y4 y5 br ss pS pD pC bP bH l1 l2 l3 l4 l5 bPd bHd opd f1d f2d l0d l1d l2d l3d l4d l5d sf0 pPt pHt pFt pTt pSt pDt pCt nm nmd vf0 kf0 hs e9 hst hlw => ?_)
  subst e9
  have hN := hs.1
  refine (c_X8_teach).weaken (fun v w h9 => ?_)
  obtain ⟨i3, b3, e3, a3, s3, o3, g3, j3, m3, nm3, bP3, bH3, u3, l0x3, l1x3, l2x3, l3x3, l4x3, l5x3, y0x2, y1x2, y2x2, y3x2, y4x2, y5x2, hrd, hi, hs4, hm, hu, h9⟩ := h9
  obtain ⟨i2, s2, b2, a2, o2, g2, j2, bP2, bH2, l0x2, l1x2, l2x2, l3x2, l4x2, l5x2, nm2, q0, q1, q2, q3, hr2, hpl, hlw2, hday⟩ := hR sf0 opd f1d f2d bPd bHd l0d l1d l2d l3d l4d l5d nmd vf0
  rw [hr2] at hrd
  simp only [Prod.mk.injEq] at hrd
  obtain ⟨⟨rfl, rfl, rfl, rfl, rfl, rfl, rfl, rfl⟩, rfl, rfl, rfl, rfl, rfl, rfl, rfl, rfl, rfl, rfl, rfl⟩ := hrd
  rcases h9 with ⟨h9, -⟩ | ⟨-, hv, li4, S4, D4, C4, hst4, hw⟩
  · exact absurd rfl h9
  subst hw
  have heq : EqS (toN Z) (fillN (fillN bP2 bP (toN Z)) pP (toN Z)) (fillN (fillN bH2 bH (toN Z)) pH (toN Z)) (fillN (fun _ => -1) pF (toN Z)) (fillN (fun _ => -1) pT (toN Z)) (toP Z) (toH Z) zzN zzN := fun i hi => by
    rw [fillN_in hi, fillN_in hi, fillN_in hi, fillN_in hi, fillN_in hi, fillN_in hi]
    exact ⟨(hpl i hi).1, (hpl i hi).2, rfl, rfl⟩
  have hok := sn_told Z
  have hto := toN_in Z
  have htm := toM_in Z
  refine ⟨hv, (fillN (fillN bP2 bP (toN Z)) pP (toN Z)), (fillN (fillN bH2 bH (toN Z)) pH (toN Z)), (fillN (fun _ => -1) pF (toN Z)), (fillN (fun _ => -1) pT (toN Z)), fillN o2 op s2, fillN g2 f1 s2, fillN j2 f2 s2, fillN l0x2 l0 (toM Z), q0, q1, q2, q3, CI.mk t b p h r a e kk L Ld (nw (tkT tm tb) i2 b2) li4 sk (nI s2) (nI (toN Z)) (nI (toM Z)) (nI s2) (nI (tL tm tb + 1)) (nI i2) ((sfF tm tb sf0 (tL tm tb + 1)) i2) 0 a2 nt dgt cot lit y0x2 y1x2 y2x2 y3x2 y4x2 y5x2 b2 ss S4 D4 C4 (fillN bP2 bP (toN Z)) (fillN bH2 bH (toN Z)) (fillN l1x2 l1 (toM Z)) (fillN l2x2 l2 (toM Z)) (fillN l3x2 l3 (toM Z)) (fillN l4x2 l4 (toM Z)) (fillN l5x2 l5 (toM Z)) bP2 bH2 o2 g2 j2 l0x2 l1x2 l2x2 l3x2 l4x2 l5x2 (sfF tm tb sf0 (tL tm tb + 1)) pPt pHt pFt pTt pSt pDt pCt (fillN nm2 nm (toN Z)) nm2 (vfF tm tb vf0 (tL tm tb + 1)) (kfF Z tm tb kf0 (tL tm tb + 1)) ⟨by omega, by omega, by decide, heq.pok hok, heq.ft hok, fun k hk => ⟨toV_lt Z k, (hlw2 k hk).2.2.2.2.2⟩⟩ rfl hst4 (fun k hk => ?_), heq, hday _ _ _ _ (fun i hi => ⟨fillN_in hi, fillN_in hi, fillN_in hi⟩) (fun k hk => fillN_in hk)⟩
  obtain ⟨z1, z2, z3, z4, z5, z6⟩ := hlw2 k hk
  rw [fillN_in hk, fillN_in hk, fillN_in hk, fillN_in hk, fillN_in hk]
  exact ⟨z1, toV_lt Z k, z2, z3, z4, z5, z6⟩
