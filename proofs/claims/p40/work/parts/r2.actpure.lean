def ndN (Z : GZ) (p : Nat → Nat) (q : PD4 × Int32) : Nat → PD4 × Int32
  | 0 => q
  | n + 1 => (pdN Z p (ndN Z p q n).2 (ndN Z p q n).1 (toM Z), (ndN Z p q n).2 + 1)
/-- a day of the class's is one by hand -/
def DayOk (Z : GZ) (op f1 f2 l0 : Nat → Int32) (hh c0 c1 c2 c3 : Nat → Nat) (u : Nat) : Prop := ∀ (P H F T : Nat → Int32) (p h f t : Nat → Nat) (dy ca : Int32), EqS (toN Z) P H F T p h f t → SnOk (toN Z) p h f t → EqS (toN Z) P (dyS (toN Z) P op f1 f2 l0 hh c0 c1 c2 c3 u ((H, F, T), ca, dy)).1.1 (dyS (toN Z) P op f1 f2 l0 hh c0 c1 c2 c3 u ((H, F, T), ca, dy)).1.2.1 (dyS (toN Z) P op f1 f2 l0 hh c0 c1 c2 c3 u ((H, F, T), ca, dy)).1.2.2 p (pdN Z p dy (h, f, t, ca) (toM Z)).1 (pdN Z p dy (h, f, t, ca) (toM Z)).2.1 (pdN Z p dy (h, f, t, ca) (toM Z)).2.2.1 ∧ (dyS (toN Z) P op f1 f2 l0 hh c0 c1 c2 c3 u ((H, F, T), ca, dy)).2.1 = (pdN Z p dy (h, f, t, ca) (toM Z)).2.2.2 ∧ (dyS (toN Z) P op f1 f2 l0 hh c0 c1 c2 c3 u ((H, F, T), ca, dy)).2.2 = dy + 1
theorem pdS_ok {Z : GZ} {p : Nat → Nat} {dy : Int32} {k : Nat} {q : PD4} (ok : SnOk (toN Z) p q.1 q.2.1 q.2.2.1) : SnOk (toN Z) p (pdS Z p dy k q).1 (pdS Z p dy k q).2.1 (pdS Z p dy k q).2.2.1 := by
  unfold pdS
  split
  · exact ok
  · unfold pd3
    have hv := (ok.2 (toV Z k) (toV_lt Z k)).2.1
    obtain ⟨-, a1, a2⟩ := hd_cl (ofN (toN Z) dy p q.1 q.2.1 q.2.2.1 2 (oneQ Z k))
    obtain ⟨-, b1, b2⟩ := hd_cl (ofN (toN Z) dy p q.1 q.2.1 q.2.2.1 2 (twoQ Z k))
    split
    · split
      · rename_i hle
        exact ok.upC (Or.inr ⟨a1, hle, b2⟩)
      · exact ok
    · split
      · exact ok.upC (Or.inl ⟨rfl, rfl⟩)
      · exact ok.upH (hd_ra hv _).2
theorem pdN_ok {Z : GZ} {p : Nat → Nat} {dy : Int32} {q : PD4} (ok : SnOk (toN Z) p q.1 q.2.1 q.2.2.1) : ∀ k, SnOk (toN Z) p (pdN Z p dy q k).1 (pdN Z p dy q k).2.1 (pdN Z p dy q k).2.2.1
  | 0 => ok
  | k + 1 => pdS_ok (pdN_ok ok k)
theorem ndN_ok {Z : GZ} {p : Nat → Nat} {q : PD4 × Int32} (ok : SnOk (toN Z) p q.1.1 q.1.2.1 q.1.2.2.1) : ∀ k, SnOk (toN Z) p (ndN Z p q k).1.1 (ndN Z p q k).1.2.1 (ndN Z p q k).1.2.2.1
  | 0 => ok
  | k + 1 => pdN_ok (ndN_ok ok k) _
theorem days_link {Z : GZ} {u : Nat} {op f1 f2 l0 : Nat → Int32} {hh c0 c1 c2 c3 : Nat → Nat} (hd : DayOk Z op f1 f2 l0 hh c0 c1 c2 c3 u) {P H F T : Nat → Int32} {p h f t : Nat → Nat} {dy ca : Int32} (e : EqS (toN Z) P H F T p h f t) (ok : SnOk (toN Z) p h f t) : ∀ n, EqS (toN Z) P (dyN (toN Z) P op f1 f2 l0 hh c0 c1 c2 c3 u ((H, F, T), ca, dy) n).1.1 (dyN (toN Z) P op f1 f2 l0 hh c0 c1 c2 c3 u ((H, F, T), ca, dy) n).1.2.1 (dyN (toN Z) P op f1 f2 l0 hh c0 c1 c2 c3 u ((H, F, T), ca, dy) n).1.2.2 p (ndN Z p ((h, f, t, ca), dy) n).1.1 (ndN Z p ((h, f, t, ca), dy) n).1.2.1 (ndN Z p ((h, f, t, ca), dy) n).1.2.2.1 ∧ (dyN (toN Z) P op f1 f2 l0 hh c0 c1 c2 c3 u ((H, F, T), ca, dy) n).2.1 = (ndN Z p ((h, f, t, ca), dy) n).1.2.2.2 ∧ (dyN (toN Z) P op f1 f2 l0 hh c0 c1 c2 c3 u ((H, F, T), ca, dy) n).2.2 = (ndN Z p ((h, f, t, ca), dy) n).2
  | 0 => ⟨e, rfl, rfl⟩
  | n + 1 => by
    obtain ⟨i1, i2, i3⟩ := days_link hd (dy := dy) (ca := ca) e ok n
    have ok2 := ndN_ok (Z := Z) (q := ((h, f, t, ca), dy)) ok n
    have := hd P _ _ _ p _ _ _ (dyN (toN Z) P op f1 f2 l0 hh c0 c1 c2 c3 u ((H, F, T), ca, dy) n).2.2 (dyN (toN Z) P op f1 f2 l0 hh c0 c1 c2 c3 u ((H, F, T), ca, dy) n).2.1 i1 ok2
    have e9 : (ndN Z p ((h, f, t, ca), dy) n).1 = ((ndN Z p ((h, f, t, ca), dy) n).1.1, (ndN Z p ((h, f, t, ca), dy) n).1.2.1, (ndN Z p ((h, f, t, ca), dy) n).1.2.2.1, (dyN (toN Z) P op f1 f2 l0 hh c0 c1 c2 c3 u ((H, F, T), ca, dy) n).2.1) := by rw [i2]
    rw [dyN, ndN, ← i3, e9]
    exact this
/-- both registries, of the same numbers -/
def LW (Z : GZ) (x : Nat → Nat) (s hA lA oA tA eA : Nat) (rw lr : Nat → Nat) (fo ft fe : Nat → Option Nat) (L : List TC) (u tm : Nat) (er : Int32) (op f1 f2 l0 tb : Nat → Int32) (hh c0 c1 c2 c3 : Nat → Nat) (w : va_W) : Prop := ∃ (pP pH pF pT : Nat → Int32) (p h f t : Nat → Nat) (dy ca : Int32) (wc : va_W), w = ((((wSim Z s (toN Z) (toM Z) hA lA oA tA eA (fun j => some (rw j)) (fun j => some (lr j)) fo ft fe dy ca ++ wRw Z (toN Z) rw p h f t) ++ wPl Z L) ++ wLr Z (toM Z) lr (toK Z) (toV Z)) ++ wc) ∧ CI Z x (toN Z) u tm er dy ca pP pH pF pT op f1 f2 l0 hh c0 c1 c2 c3 tb wc ∧ EqS (toN Z) pP pH pF pT p h f t ∧ SnOk (toN Z) p h f t
def acM (x : Int32) : Nat := if belN (x >>> ((7 : Int32) &&& 31)) 2 = 0 then 31 else 10
def acD (x : Int32) : Nat := if belN (x >>> ((8 : Int32) &&& 31)) 4 = 0 then 30 else 3
theorem acM_in (x : Int32) : 0 < acM x ∧ acM x ≤ 31 := by
  unfold acM
  split <;> omega
theorem acD_in (x : Int32) : 0 < acD x ∧ acD x ≤ 30 := by
  unfold acD
  split <;> omega
theorem upN_s (f : Nat → Nat) (i y : Nat) : upN f i y i = y := by simp [upN]
