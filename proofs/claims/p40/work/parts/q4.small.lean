theorem hr_ok {k : Nat} (hk : k < 24) : ¬ (nI k < 0 ∨ 24 ≤ nI k) := fun q => q.elim (nI_pos (n := k) (by omega)) (nI_ge (a := k) (b := 24) hk (by decide))
theorem cu_ok {a b : Nat} (h1 : 6 ≤ a) (h2 : a ≤ b) (h3 : b ≤ 18) : ¬ (nI a < 6 ∨ 18 < nI b ∨ nI b < nI a) := by
  rintro (q | q | q)
  · exact nI_nlt (a := a) (b := 6) h1 (by omega) q
  · exact nI_nlt (a := 18) (b := b) h3 (by decide) q
  · exact nI_nlt (a := b) (b := a) h2 (by omega) q
theorem up_ok {x m : Nat} (h : x ≤ m) (hm : m < 1000) : ¬ (nI x < 0 ∨ nI m < nI x) := fun q => q.elim (nI_pos (n := x) (by omega)) (nI_nlt (a := m) (b := x) h (by omega))
theorem lo_ok {x m : Nat} (h0 : 1 ≤ x) (h : x ≤ m) (hm : m < 1000) : ¬ (nI x < 1 ∨ nI m < nI x) := fun q => q.elim (nI_nlt (a := x) (b := 1) h0 (by omega)) (nI_nlt (a := m) (b := x) h (by omega))
theorem cnt_nat {y : Nat → Bool} {z : Nat → Bool} : ∀ {n : Nat}, (∀ i, i < n → y i = z i) → cntN y n = cnN z n
  | 0, _ => rfl
  | n + 1, h => by
    rw [cntN, cnN, cnt_nat (fun i hi => h i (by omega)), h n (by omega)]
/-- the first of the most -/
def axN (g : Nat → Nat) : Nat → Nat
  | 0 => 0
  | k + 1 => if g (axN g k) < g k then k else axN g k
theorem axN_lt {g : Nat → Nat} : ∀ {k : Nat}, 1 ≤ k → axN g k < k
  | 0, h => absurd h (by decide)
  | 1, _ => by rw [axN, show axN g 0 = 0 from rfl, if_neg (Nat.lt_irrefl _)]; decide
  | k + 2, _ => by
    have := axN_lt (g := g) (k := k + 1) (by omega)
    rw [axN]
    split <;> omega
theorem amx_nat {y : Nat → Int32} {g : Nat → Nat} : ∀ {n : Nat}, (∀ i, i < n → y i = nI (g i) ∧ g i < 1000) → amx y n = axN g n
  | 0, _ => rfl
  | n + 1, h => by
    have e := amx_nat (n := n) (fun i hi => h i (by omega))
    have hn := h n (by omega)
    rw [amx, axN, e]
    rcases Nat.eq_zero_or_pos n with z | z
    · subst z
      rw [show axN g 0 = 0 from rfl, hn.1]
      by_cases c : g 0 < g 0
      · exact absurd c (Nat.lt_irrefl _)
      · rw [if_neg c, if_neg (nI_nlt (Nat.le_refl _) (by omega))]
    · have ha := h _ (show axN g n < n + 1 by have := axN_lt (g := g) z; omega)
      rw [ha.1, hn.1]
      by_cases c : g (axN g n) < g n
      · rw [if_pos c, if_pos (nI_lt c (by omega))]
      · rw [if_neg c, if_neg (nI_nlt (by omega) (by omega))]
theorem k_placeOf {Z : GZ} {l : Launch} (hl : l.stackTraces = false) {x : Nat → Nat} {N u tm : Nat} {er dg co : Int32} {pP pH pF pT op f1 f2 l0 tb : Nat → Int32} {hh c0 c1 c2 c3 : Nat → Nat} {p h f t : Nat → Nat} {w0 : va_W} (hC : CI Z x N u tm er dg co pP pH pF pT op f1 f2 l0 hh c0 c1 c2 c3 tb w0) (eq : EqS N pP pH pF pT p h f t) (ok : SnOk N p h f t) {a : Nat} (ha : a < N) : Ct Z l yX8_placeOf cX8_placeOf 2 (some .int) (rmM 8 1 6) [.ref (x 0), .int (nI a)] w0 (fun v w => v = some (.int (nI (p a))) ∧ CI Z x N u tm er dg co pP pH pF pT op f1 f2 l0 hh c0 c1 c2 c3 tb w) := by
  have hN := ok.1
  refine ((n_X8_placeOf hl (q := (nI a)) hC).weaken (K' := fun v w => v = some (.int (nI (p a))) ∧ CI Z x N u tm er dg co pP pH pF pT op f1 f2 l0 hh c0 c1 c2 c3 tb w) (KX' := fun _ => False) (fun v w h9 => ?_) (fun E h9 => ?_)).ct (fun E h => h)
  · obtain ⟨-, h1, h2⟩ := h9
    exact ⟨h1.trans (congrArg (fun z => some (Value.int z)) (by rw [stAt_nI ha hN]; exact (eq a ha).1)), h2⟩
  · rw [if_neg (fun z => z (hasB_nI ha hN))] at h9
    rcases h9 with ⟨-, q⟩
    exact absurd q (by decide)
theorem k_heightOf {Z : GZ} {l : Launch} (hl : l.stackTraces = false) {x : Nat → Nat} {N u tm : Nat} {er dg co : Int32} {pP pH pF pT op f1 f2 l0 tb : Nat → Int32} {hh c0 c1 c2 c3 : Nat → Nat} {p h f t : Nat → Nat} {w0 : va_W} (hC : CI Z x N u tm er dg co pP pH pF pT op f1 f2 l0 hh c0 c1 c2 c3 tb w0) (eq : EqS N pP pH pF pT p h f t) (ok : SnOk N p h f t) {a : Nat} (ha : a < N) : Ct Z l yX8_heightOf cX8_heightOf 2 (some .int) (rmM 8 1 6) [.ref (x 0), .int (nI a)] w0 (fun v w => v = some (.int (nI (h a))) ∧ CI Z x N u tm er dg co pP pH pF pT op f1 f2 l0 hh c0 c1 c2 c3 tb w) := by
  have hN := ok.1
  refine ((n_X8_heightOf hl (q := (nI a)) hC).weaken (K' := fun v w => v = some (.int (nI (h a))) ∧ CI Z x N u tm er dg co pP pH pF pT op f1 f2 l0 hh c0 c1 c2 c3 tb w) (KX' := fun _ => False) (fun v w h9 => ?_) (fun E h9 => ?_)).ct (fun E h => h)
  · obtain ⟨-, h1, h2⟩ := h9
    exact ⟨h1.trans (congrArg (fun z => some (Value.int z)) (by rw [stAt_nI ha hN]; exact (eq a ha).2.1)), h2⟩
  · rw [if_neg (fun z => z (hasB_nI ha hN))] at h9
    rcases h9 with ⟨-, q⟩
    exact absurd q (by decide)
theorem k_hoursLost {Z : GZ} {l : Launch} (hl : l.stackTraces = false) {x : Nat → Nat} {N u tm : Nat} {er dg co : Int32} {pP pH pF pT op f1 f2 l0 tb : Nat → Int32} {hh c0 c1 c2 c3 : Nat → Nat} {p h f t : Nat → Nat} {w0 : va_W} (hC : CI Z x N u tm er dg co pP pH pF pT op f1 f2 l0 hh c0 c1 c2 c3 tb w0) (eq : EqS N pP pH pF pT p h f t) (ok : SnOk N p h f t) {a : Nat} (ha : a < N) : Ct Z l yX8_hoursLost cX8_hoursLost 2 (some .int) (rmM 8 1 6) [.ref (x 0), .int (nI a)] w0 (fun v w => v = some (.int (nI (loN p h f t N a))) ∧ CI Z x N u tm er dg co pP pH pF pT op f1 f2 l0 hh c0 c1 c2 c3 tb w) := by
  have hN := ok.1
  refine ((n_X8_hoursLost hl (q := (nI a)) hC).weaken (K' := fun v w => v = some (.int (nI (loN p h f t N a))) ∧ CI Z x N u tm er dg co pP pH pF pT op f1 f2 l0 hh c0 c1 c2 c3 tb w) (KX' := fun _ => False) (fun v w h9 => ?_) (fun E h9 => ?_)).ct (fun E h => h)
  · obtain ⟨-, h1, h2⟩ := h9
    exact ⟨h1.trans (congrArg (fun z => some (Value.int z)) (by rw [stAt_nI ha hN]; exact lo_b eq ok ha)), h2⟩
  · rw [if_neg (fun z => z (hasB_nI ha hN))] at h9
    rcases h9 with ⟨-, q⟩
    exact absurd q (by decide)
theorem k_castBy {Z : GZ} {l : Launch} (hl : l.stackTraces = false) {x : Nat → Nat} {N u tm : Nat} {er dg co : Int32} {pP pH pF pT op f1 f2 l0 tb : Nat → Int32} {hh c0 c1 c2 c3 : Nat → Nat} {p h f t : Nat → Nat} {w0 : va_W} (hC : CI Z x N u tm er dg co pP pH pF pT op f1 f2 l0 hh c0 c1 c2 c3 tb w0) (eq : EqS N pP pH pF pT p h f t) (ok : SnOk N p h f t) {a : Nat} (ha : a < N) : Ct Z l yX8_castBy cX8_castBy 2 (some .int) (rmM 8 1 6) [.ref (x 0), .int (nI a)] w0 (fun v w => v = some (.int (nI (caN p h f t N a))) ∧ CI Z x N u tm er dg co pP pH pF pT op f1 f2 l0 hh c0 c1 c2 c3 tb w) := by
  have hN := ok.1
  refine ((n_X8_castBy hl (q := (nI a)) hC).weaken (K' := fun v w => v = some (.int (nI (caN p h f t N a))) ∧ CI Z x N u tm er dg co pP pH pF pT op f1 f2 l0 hh c0 c1 c2 c3 tb w) (KX' := fun _ => False) (fun v w h9 => ?_) (fun E h9 => ?_)).ct (fun E h => h)
  · obtain ⟨-, h1, h2⟩ := h9
    exact ⟨h1.trans (congrArg (fun z => some (Value.int z)) (by rw [stAt_nI ha hN]; exact ca_b eq ok ha)), h2⟩
  · rw [if_neg (fun z => z (hasB_nI ha hN))] at h9
    rcases h9 with ⟨-, q⟩
    exact absurd q (by decide)
theorem k_hasCurfew {Z : GZ} {l : Launch} (hl : l.stackTraces = false) {x : Nat → Nat} {N u tm : Nat} {er dg co : Int32} {pP pH pF pT op f1 f2 l0 tb : Nat → Int32} {hh c0 c1 c2 c3 : Nat → Nat} {p h f t : Nat → Nat} {w0 : va_W} (hC : CI Z x N u tm er dg co pP pH pF pT op f1 f2 l0 hh c0 c1 c2 c3 tb w0) (eq : EqS N pP pH pF pT p h f t) (ok : SnOk N p h f t) {a : Nat} (ha : a < N) : Ct Z l yX8_hasCurfew cX8_hasCurfew 2 (some .boolean) (rmM 8 1 6) [.ref (x 0), .int (nI a)] w0 (fun v w => v = some (.int (b2i (!decide (f a = 0)))) ∧ CI Z x N u tm er dg co pP pH pF pT op f1 f2 l0 hh c0 c1 c2 c3 tb w) := by
  have hN := ok.1
  refine ((n_X8_hasCurfew hl (q := (nI a)) hC).weaken (K' := fun v w => v = some (.int (b2i (!decide (f a = 0)))) ∧ CI Z x N u tm er dg co pP pH pF pT op f1 f2 l0 hh c0 c1 c2 c3 tb w) (KX' := fun _ => False) (fun v w h9 => ?_) (fun E h9 => ?_)).ct (fun E h => h)
  · obtain ⟨-, h1, h2⟩ := h9
    exact ⟨h1.trans (congrArg (fun z => some (Value.int (b2i z))) (by rw [stAt_nI ha hN, (eq a ha).2.2.1, decide_eq_decide.mpr (cu_m1 (by have := (ok.2 a ha).2.2; omega))])), h2⟩
  · rw [if_neg (fun z => z (hasB_nI ha hN))] at h9
    rcases h9 with ⟨-, q⟩
    exact absurd q (by decide)
theorem k_curfewFrom {Z : GZ} {l : Launch} (hl : l.stackTraces = false) {x : Nat → Nat} {N u tm : Nat} {er dg co : Int32} {pP pH pF pT op f1 f2 l0 tb : Nat → Int32} {hh c0 c1 c2 c3 : Nat → Nat} {p h f t : Nat → Nat} {w0 : va_W} (hC : CI Z x N u tm er dg co pP pH pF pT op f1 f2 l0 hh c0 c1 c2 c3 tb w0) (eq : EqS N pP pH pF pT p h f t) (ok : SnOk N p h f t) {a : Nat} (ha : a < N) (hf : ¬ f a = 0) : Ct Z l yX8_curfewFrom cX8_curfewFrom 2 (some .int) (rmM 8 2 12) [.ref (x 0), .int (nI a)] w0 (fun v w => v = some (.int (cuI (f a))) ∧ CI Z x N u tm er dg co pP pH pF pT op f1 f2 l0 hh c0 c1 c2 c3 tb w) := by
  have hN := ok.1
  refine ((n_X8_curfewFrom hl (q := (nI a)) hC).weaken (K' := fun v w => v = some (.int (cuI (f a))) ∧ CI Z x N u tm er dg co pP pH pF pT op f1 f2 l0 hh c0 c1 c2 c3 tb w) (KX' := fun _ => False) (fun v w h9 => ?_) (fun E h9 => ?_)).ct (fun E h => h)
  · obtain ⟨-, h1, h2⟩ := h9
    exact ⟨h1.trans (congrArg (fun z => some (Value.int z)) (by rw [stAt_nI ha hN]; exact (eq a ha).2.2.1)), h2⟩
  · rw [if_neg (fun z => z (hasB_nI ha hN)), if_neg (fun z => hf (by rw [stAt_nI ha hN, (eq a ha).2.2.1] at z; exact (cu_m1 (by have := (ok.2 a ha).2.2; omega)).mp z))] at h9
    rcases h9 with ⟨-, q⟩ | ⟨-, q⟩ <;> exact absurd q (by decide)
theorem k_curfewTo {Z : GZ} {l : Launch} (hl : l.stackTraces = false) {x : Nat → Nat} {N u tm : Nat} {er dg co : Int32} {pP pH pF pT op f1 f2 l0 tb : Nat → Int32} {hh c0 c1 c2 c3 : Nat → Nat} {p h f t : Nat → Nat} {w0 : va_W} (hC : CI Z x N u tm er dg co pP pH pF pT op f1 f2 l0 hh c0 c1 c2 c3 tb w0) (eq : EqS N pP pH pF pT p h f t) (ok : SnOk N p h f t) {a : Nat} (ha : a < N) (hf : ¬ f a = 0) : Ct Z l yX8_curfewTo cX8_curfewTo 2 (some .int) (rmM 8 2 12) [.ref (x 0), .int (nI a)] w0 (fun v w => v = some (.int (cuI (t a))) ∧ CI Z x N u tm er dg co pP pH pF pT op f1 f2 l0 hh c0 c1 c2 c3 tb w) := by
  have hN := ok.1
  refine ((n_X8_curfewTo hl (q := (nI a)) hC).weaken (K' := fun v w => v = some (.int (cuI (t a))) ∧ CI Z x N u tm er dg co pP pH pF pT op f1 f2 l0 hh c0 c1 c2 c3 tb w) (KX' := fun _ => False) (fun v w h9 => ?_) (fun E h9 => ?_)).ct (fun E h => h)
  · obtain ⟨-, h1, h2⟩ := h9
    exact ⟨h1.trans (congrArg (fun z => some (Value.int z)) (by rw [stAt_nI ha hN]; exact (eq a ha).2.2.2)), h2⟩
  · rw [if_neg (fun z => z (hasB_nI ha hN)), if_neg (fun z => hf (by rw [stAt_nI ha hN, (eq a ha).2.2.1] at z; exact (cu_m1 (by have := (ok.2 a ha).2.2; omega)).mp z))] at h9
    rcases h9 with ⟨-, q⟩ | ⟨-, q⟩ <;> exact absurd q (by decide)
theorem k_hoursLostTo {Z : GZ} {l : Launch} (hl : l.stackTraces = false) {x : Nat → Nat} {N u tm : Nat} {er dg co : Int32} {pP pH pF pT op f1 f2 l0 tb : Nat → Int32} {hh c0 c1 c2 c3 : Nat → Nat} {p h f t : Nat → Nat} {w0 : va_W} (hC : CI Z x N u tm er dg co pP pH pF pT op f1 f2 l0 hh c0 c1 c2 c3 tb w0) (eq : EqS N pP pH pF pT p h f t) (ok : SnOk N p h f t) {a b : Nat} (ha : a < N) (hb : b < N) : Ct Z l yX8_hoursLostTo cX8_hoursLostTo 3 (some .int) (rmM 8 2 12) [.ref (x 0), .int (nI a), .int (nI b)] w0 (fun v w => v = some (.int (nI (ltN p h f t a b))) ∧ CI Z x N u tm er dg co pP pH pF pT op f1 f2 l0 hh c0 c1 c2 c3 tb w) := by
  have hN := ok.1
  refine ((n_X8_hoursLostTo hl (q := (nI a)) (g := (nI b)) hC).weaken (K' := fun v w => v = some (.int (nI (ltN p h f t a b))) ∧ CI Z x N u tm er dg co pP pH pF pT op f1 f2 l0 hh c0 c1 c2 c3 tb w) (KX' := fun _ => False) (fun v w h9 => ?_) (fun E h9 => ?_)).ct (fun E h => h)
  · obtain ⟨-, h1, h2⟩ := h9
    exact ⟨h1.trans (congrArg (fun z => some (Value.int z)) (by rw [shX_b hN ha hb]; exact lt_b eq ok ha hb)), h2⟩
  · rw [if_neg (fun z => z (hasB_nI ha hN)), if_neg (fun z => z (hasB_nI hb hN))] at h9
    rcases h9 with ⟨-, q⟩
    exact absurd q (by decide)
theorem k_heightAt {Z : GZ} {l : Launch} (hl : l.stackTraces = false) {x : Nat → Nat} {N u tm : Nat} {er dg co : Int32} {pP pH pF pT op f1 f2 l0 tb : Nat → Int32} {hh c0 c1 c2 c3 : Nat → Nat} {p h f t : Nat → Nat} {w0 : va_W} (hC : CI Z x N u tm er dg co pP pH pF pT op f1 f2 l0 hh c0 c1 c2 c3 tb w0) (eq : EqS N pP pH pF pT p h f t) (ok : SnOk N p h f t) {a k : Nat} (ha : a < N) (hk : k < 24) : Ct Z l yX8_heightAt cX8_heightAt 3 (some .int) (rmM 8 2 12) [.ref (x 0), .int (nI a), .int (nI k)] w0 (fun v w => v = some (.int (nI (tlN h f t a k))) ∧ CI Z x N u tm er dg co pP pH pF pT op f1 f2 l0 hh c0 c1 c2 c3 tb w) := by
  have hN := ok.1
  refine ((n_X8_heightAt hl (q := (nI a)) (g := (nI k)) hC).weaken (K' := fun v w => v = some (.int (nI (tlN h f t a k))) ∧ CI Z x N u tm er dg co pP pH pF pT op f1 f2 l0 hh c0 c1 c2 c3 tb w) (KX' := fun _ => False) (fun v w h9 => ?_) (fun E h9 => ?_)).ct (fun E h => h)
  · obtain ⟨-, h1, h2⟩ := h9
    exact ⟨h1.trans (congrArg (fun z => some (Value.int z)) (wl_b eq ok ha hk)), h2⟩
  · rw [if_neg (fun z => z (hasB_nI ha hN)), if_neg (hr_ok hk)] at h9
    rcases h9 with ⟨-, q⟩
    exact absurd q (by decide)
theorem k_shadowOf {Z : GZ} {l : Launch} (hl : l.stackTraces = false) {x : Nat → Nat} {N u tm : Nat} {er dg co : Int32} {pP pH pF pT op f1 f2 l0 tb : Nat → Int32} {hh c0 c1 c2 c3 : Nat → Nat} {p h f t : Nat → Nat} {w0 : va_W} (hC : CI Z x N u tm er dg co pP pH pF pT op f1 f2 l0 hh c0 c1 c2 c3 tb w0) (eq : EqS N pP pH pF pT p h f t) (ok : SnOk N p h f t) {a k : Nat} (ha : a < N) (hk : k < 24) : Ct Z l yX8_shadowOf cX8_shadowOf 3 (some .int) (rmM 8 2 12) [.ref (x 0), .int (nI a), .int (nI k)] w0 (fun v w => v = some (.int (nI (rcN h f t a k))) ∧ CI Z x N u tm er dg co pP pH pF pT op f1 f2 l0 hh c0 c1 c2 c3 tb w) := by
  have hN := ok.1
  refine ((n_X8_shadowOf hl (q := (nI a)) (g := (nI k)) hC).weaken (K' := fun v w => v = some (.int (nI (rcN h f t a k))) ∧ CI Z x N u tm er dg co pP pH pF pT op f1 f2 l0 hh c0 c1 c2 c3 tb w) (KX' := fun _ => False) (fun v w h9 => ?_) (fun E h9 => ?_)).ct (fun E h => h)
  · obtain ⟨-, h1, h2⟩ := h9
    exact ⟨h1.trans (congrArg (fun z => some (Value.int z)) (rc_b eq ok ha hk)), h2⟩
  · rw [if_neg (fun z => z (hasB_nI ha hN)), if_neg (hr_ok hk)] at h9
    rcases h9 with ⟨-, q⟩
    exact absurd q (by decide)
theorem k_shades {Z : GZ} {l : Launch} (hl : l.stackTraces = false) {x : Nat → Nat} {N u tm : Nat} {er dg co : Int32} {pP pH pF pT op f1 f2 l0 tb : Nat → Int32} {hh c0 c1 c2 c3 : Nat → Nat} {p h f t : Nat → Nat} {w0 : va_W} (hC : CI Z x N u tm er dg co pP pH pF pT op f1 f2 l0 hh c0 c1 c2 c3 tb w0) (eq : EqS N pP pH pF pT p h f t) (ok : SnOk N p h f t) {b a k : Nat} (ha : a < N) (hb : b < N) (hk : k < 24) : Ct Z l yX8_shades cX8_shades 4 (some .boolean) (rmM 8 3 18) [.ref (x 0), .int (nI b), .int (nI a), .int (nI k)] w0 (fun v w => v = some (.int (b2i (shB p h f t b a k))) ∧ CI Z x N u tm er dg co pP pH pF pT op f1 f2 l0 hh c0 c1 c2 c3 tb w) := by
  have hN := ok.1
  refine ((n_X8_shades hl (q := (nI b)) (g := (nI a)) (h_ := (nI k)) hC).weaken (K' := fun v w => v = some (.int (b2i (shB p h f t b a k))) ∧ CI Z x N u tm er dg co pP pH pF pT op f1 f2 l0 hh c0 c1 c2 c3 tb w) (KX' := fun _ => False) (fun v w h9 => ?_) (fun E h9 => ?_)).ct (fun E h => h)
  · obtain ⟨-, h1, h2⟩ := h9
    exact ⟨h1.trans (congrArg (fun z => some (Value.int (b2i z))) (by rw [shX_b hN ha hb]; exact hh_b eq ok ha hb hk)), h2⟩
  · rw [if_neg (fun z => z (hasB_nI hb hN)), if_neg (fun z => z (hasB_nI ha hN)), if_neg (hr_ok hk)] at h9
    rcases h9 with ⟨-, q⟩
    exact absurd q (by decide)
theorem k_isInTheDark {Z : GZ} {l : Launch} (hl : l.stackTraces = false) {x : Nat → Nat} {N u tm : Nat} {er dg co : Int32} {pP pH pF pT op f1 f2 l0 tb : Nat → Int32} {hh c0 c1 c2 c3 : Nat → Nat} {p h f t : Nat → Nat} {w0 : va_W} (hC : CI Z x N u tm er dg co pP pH pF pT op f1 f2 l0 hh c0 c1 c2 c3 tb w0) (eq : EqS N pP pH pF pT p h f t) (ok : SnOk N p h f t) {a k : Nat} (ha : a < N) (hk : k < 24) : Ct Z l yX8_isInTheDark cX8_isInTheDark 3 (some .boolean) (rmM 8 2 12) [.ref (x 0), .int (nI a), .int (nI k)] w0 (fun v w => v = some (.int (b2i (dkN p h f t N a k))) ∧ CI Z x N u tm er dg co pP pH pF pT op f1 f2 l0 hh c0 c1 c2 c3 tb w) := by
  have hN := ok.1
  refine ((n_X8_isInTheDark hl (q := (nI a)) (g := (nI k)) hC).weaken (K' := fun v w => v = some (.int (b2i (dkN p h f t N a k))) ∧ CI Z x N u tm er dg co pP pH pF pT op f1 f2 l0 hh c0 c1 c2 c3 tb w) (KX' := fun _ => False) (fun v w h9 => ?_) (fun E h9 => ?_)).ct (fun E h => h)
  · obtain ⟨-, h1, h2⟩ := h9
    exact ⟨h1.trans (congrArg (fun z => some (Value.int (b2i z))) (by rw [stAt_nI ha hN]; exact hd_b eq ok ha hk)), h2⟩
  · rw [if_neg (fun z => z (hasB_nI ha hN)), if_neg (hr_ok hk)] at h9
    rcases h9 with ⟨-, q⟩
    exact absurd q (by decide)
theorem k_shadedBy {Z : GZ} {l : Launch} (hl : l.stackTraces = false) {x : Nat → Nat} {N u tm : Nat} {er dg co : Int32} {pP pH pF pT op f1 f2 l0 tb : Nat → Int32} {hh c0 c1 c2 c3 : Nat → Nat} {p h f t : Nat → Nat} {w0 : va_W} (hC : CI Z x N u tm er dg co pP pH pF pT op f1 f2 l0 hh c0 c1 c2 c3 tb w0) (eq : EqS N pP pH pF pT p h f t) (ok : SnOk N p h f t) {a k : Nat} (ha : a < N) (hk : k < 24) (hd : dkN p h f t N a k = true) : Ct Z l yX8_shadedBy cX8_shadedBy 7 (some .int) (rmM 8 3 18) [.ref (x 0), .int (nI a), .int (nI k)] w0 (fun v w => v = some (.int (opI (nrN p h f t a k N).1)) ∧ CI Z x N u tm er dg co pP pH pF pT op f1 f2 l0 hh c0 c1 c2 c3 tb w) := by
  have hN := ok.1
  refine ((n_X8_shadedBy hl (q := (nI a)) (g := (nI k)) hC).weaken (K' := fun v w => v = some (.int (opI (nrN p h f t a k N).1)) ∧ CI Z x N u tm er dg co pP pH pF pT op f1 f2 l0 hh c0 c1 c2 c3 tb w) (KX' := fun _ => False) (fun v w h9 => ?_) (fun E h9 => ?_)).ct (fun E h => h)
  · obtain ⟨-, h1, h2⟩ := h9
    rw [nI_clamp (n := a) (by omega)] at h1
    exact ⟨h1.trans (congrArg (fun z => some (Value.int z)) (sbN_b eq ok ha hk)), h2⟩
  · rw [if_neg (fun z => z (hasB_nI ha hN)), if_neg (hr_ok hk), if_neg (fun z => by rw [stAt_nI ha hN, hd_b eq ok ha hk, hd] at z; cases z)] at h9
    rcases h9 with ⟨-, q⟩ | ⟨-, q⟩ <;> exact absurd q (by decide)
theorem k_housesInTheDark {Z : GZ} {l : Launch} (hl : l.stackTraces = false) {x : Nat → Nat} {N u tm : Nat} {er dg co : Int32} {pP pH pF pT op f1 f2 l0 tb : Nat → Int32} {hh c0 c1 c2 c3 : Nat → Nat} {p h f t : Nat → Nat} {w0 : va_W} (hC : CI Z x N u tm er dg co pP pH pF pT op f1 f2 l0 hh c0 c1 c2 c3 tb w0) (eq : EqS N pP pH pF pT p h f t) (ok : SnOk N p h f t) {k : Nat} (hk : k < 24) : Ct Z l yX8_housesInTheDark cX8_housesInTheDark 2 (some .int) (rmM 8 1 6) [.ref (x 0), .int (nI k)] w0 (fun v w => v = some (.int (nI (cnN (fun a => dkN p h f t N a k) N))) ∧ CI Z x N u tm er dg co pP pH pF pT op f1 f2 l0 hh c0 c1 c2 c3 tb w) := by
  have hN := ok.1
  refine ((n_X8_housesInTheDark hl (q := (nI k)) hC).weaken (K' := fun v w => v = some (.int (nI (cnN (fun a => dkN p h f t N a k) N))) ∧ CI Z x N u tm er dg co pP pH pF pT op f1 f2 l0 hh c0 c1 c2 c3 tb w) (KX' := fun _ => False) (fun v w h9 => ?_) (fun E h9 => ?_)).ct (fun E h => h)
  · obtain ⟨-, h1, h2⟩ := h9
    exact ⟨h1.trans (congrArg (fun z => some (Value.int z)) (congrArg nI (cnt_nat (fun i hi => by rw [dkB, stAt_nI hi hN]; exact hd_b eq ok hi hk)))), h2⟩
  · rw [if_neg (hr_ok hk)] at h9
    rcases h9 with ⟨-, q⟩
    exact absurd q (by decide)
theorem k_lightHouses {Z : GZ} {l : Launch} {x : Nat → Nat} {N u tm : Nat} {er dg co : Int32} {pP pH pF pT op f1 f2 l0 tb : Nat → Int32} {hh c0 c1 c2 c3 : Nat → Nat} {p h f t : Nat → Nat} {w0 : va_W} (hC : CI Z x N u tm er dg co pP pH pF pT op f1 f2 l0 hh c0 c1 c2 c3 tb w0) (eq : EqS N pP pH pF pT p h f t) (ok : SnOk N p h f t) : Ct Z l yX8_lightHouses cX8_lightHouses 3 (some .int) (rmK 3) [.ref (x 0)] w0 (fun v w => v = some (.int (nI (cnN (fun a => decide (loN p h f t N a = 0)) N))) ∧ CI Z x N u tm er dg co pP pH pF pT op f1 f2 l0 hh c0 c1 c2 c3 tb w) := by
  have hN := ok.1
  refine (n_X8_lightHouses hC).weaken (fun v w h9 => ?_)
  obtain ⟨h1, h2⟩ := h9
  exact ⟨h1.trans (congrArg (fun z => some (Value.int z)) (congrArg nI (cnt_nat (fun i hi => by rw [ltB, stAt_nI hi hN, lo_b eq ok hi]; exact decide_eq_decide.mpr (nI_eq (b := 0) (by have := loN_le p h f t N i; omega) (by decide)))))), h2⟩
theorem k_worstHouse {Z : GZ} {l : Launch} (hl : l.stackTraces = false) {x : Nat → Nat} {N u tm : Nat} {er dg co : Int32} {pP pH pF pT op f1 f2 l0 tb : Nat → Int32} {hh c0 c1 c2 c3 : Nat → Nat} {p h f t : Nat → Nat} {w0 : va_W} (hC : CI Z x N u tm er dg co pP pH pF pT op f1 f2 l0 hh c0 c1 c2 c3 tb w0) (eq : EqS N pP pH pF pT p h f t) (ok : SnOk N p h f t) (hn : 0 < N) : Ct Z l yX8_worstHouse cX8_worstHouse 3 (some .int) (rmM 8 1 6) [.ref (x 0)] w0 (fun v w => v = some (.int (nI (axN (fun a => loN p h f t N a) N))) ∧ CI Z x N u tm er dg co pP pH pF pT op f1 f2 l0 hh c0 c1 c2 c3 tb w) := by
  have hN := ok.1
  refine ((n_X8_worstHouse hl hC).weaken (K' := fun v w => v = some (.int (nI (axN (fun a => loN p h f t N a) N))) ∧ CI Z x N u tm er dg co pP pH pF pT op f1 f2 l0 hh c0 c1 c2 c3 tb w) (KX' := fun _ => False) (fun v w h9 => ?_) (fun E h9 => ?_)).ct (fun E h => h)
  · obtain ⟨-, h1, h2⟩ := h9
    exact ⟨h1.trans (congrArg (fun z => some (Value.int z)) (congrArg nI (amx_nat (fun i hi => ⟨by rw [lsI, stAt_nI hi hN]; exact lo_b eq ok hi, by have := loN_le p h f t N i; omega⟩)))), h2⟩
  · rw [if_neg (show ¬ nI N = 0 from fun z => absurd ((nI_eq (a := N) (b := 0) (by omega) (by decide)).mp z) (by omega))] at h9
    rcases h9 with ⟨-, q⟩
    exact absurd q (by decide)
theorem k_darkestWall {Z : GZ} {l : Launch} (hl : l.stackTraces = false) {x : Nat → Nat} {N u tm : Nat} {er dg co : Int32} {pP pH pF pT op f1 f2 l0 tb : Nat → Int32} {hh c0 c1 c2 c3 : Nat → Nat} {p h f t : Nat → Nat} {w0 : va_W} (hC : CI Z x N u tm er dg co pP pH pF pT op f1 f2 l0 hh c0 c1 c2 c3 tb w0) (eq : EqS N pP pH pF pT p h f t) (ok : SnOk N p h f t) (hn : 0 < N) : Ct Z l yX8_darkestWall cX8_darkestWall 3 (some .int) (rmM 8 1 6) [.ref (x 0)] w0 (fun v w => v = some (.int (nI (axN (fun a => caN p h f t N a) N))) ∧ CI Z x N u tm er dg co pP pH pF pT op f1 f2 l0 hh c0 c1 c2 c3 tb w) := by
  have hN := ok.1
  refine ((n_X8_darkestWall hl hC).weaken (K' := fun v w => v = some (.int (nI (axN (fun a => caN p h f t N a) N))) ∧ CI Z x N u tm er dg co pP pH pF pT op f1 f2 l0 hh c0 c1 c2 c3 tb w) (KX' := fun _ => False) (fun v w h9 => ?_) (fun E h9 => ?_)).ct (fun E h => h)
  · obtain ⟨-, h1, h2⟩ := h9
    exact ⟨h1.trans (congrArg (fun z => some (Value.int z)) (congrArg nI (amx_nat (fun i hi => ⟨by rw [csI, stAt_nI hi hN]; exact ca_b eq ok hi, by have := caN_le p h f t hN i; omega⟩)))), h2⟩
  · rw [if_neg (show ¬ nI N = 0 from fun z => absurd ((nI_eq (a := N) (b := 0) (by omega) (by decide)).mp z) (by omega))] at h9
    rcases h9 with ⟨-, q⟩
    exact absurd q (by decide)
theorem k_houses {Z : GZ} {l : Launch} {x : Nat → Nat} {N u tm : Nat} {er dg co : Int32} {pP pH pF pT op f1 f2 l0 tb : Nat → Int32} {hh c0 c1 c2 c3 : Nat → Nat} {p h f t : Nat → Nat} {w0 : va_W} (hC : CI Z x N u tm er dg co pP pH pF pT op f1 f2 l0 hh c0 c1 c2 c3 tb w0) (eq : EqS N pP pH pF pT p h f t) (ok : SnOk N p h f t) : Ct Z l yX8_houses cX8_houses 1 (some .int) (rmK 0) [.ref (x 0)] w0 (fun v w => v = some (.int (nI N)) ∧ CI Z x N u tm er dg co pP pH pF pT op f1 f2 l0 hh c0 c1 c2 c3 tb w) := by
  have hN := ok.1
  refine (n_X8_houses hC).weaken (fun v w h9 => ?_)
  obtain ⟨h1, h2⟩ := h9
  exact ⟨h1.trans (congrArg (fun z => some (Value.int z)) (rfl)), h2⟩
theorem k_laws {Z : GZ} {l : Launch} {x : Nat → Nat} {N u tm : Nat} {er dg co : Int32} {pP pH pF pT op f1 f2 l0 tb : Nat → Int32} {hh c0 c1 c2 c3 : Nat → Nat} {p h f t : Nat → Nat} {w0 : va_W} (hC : CI Z x N u tm er dg co pP pH pF pT op f1 f2 l0 hh c0 c1 c2 c3 tb w0) (eq : EqS N pP pH pF pT p h f t) (ok : SnOk N p h f t) : Ct Z l yX8_laws cX8_laws 1 (some .int) (rmK 0) [.ref (x 0)] w0 (fun v w => v = some (.int (nI u)) ∧ CI Z x N u tm er dg co pP pH pF pT op f1 f2 l0 hh c0 c1 c2 c3 tb w) := by
  have hN := ok.1
  refine (n_X8_laws hC).weaken (fun v w h9 => ?_)
  obtain ⟨h1, h2⟩ := h9
  exact ⟨h1.trans (congrArg (fun z => some (Value.int z)) (rfl)), h2⟩
theorem k_days {Z : GZ} {l : Launch} {x : Nat → Nat} {N u tm : Nat} {er dg co : Int32} {pP pH pF pT op f1 f2 l0 tb : Nat → Int32} {hh c0 c1 c2 c3 : Nat → Nat} {p h f t : Nat → Nat} {w0 : va_W} (hC : CI Z x N u tm er dg co pP pH pF pT op f1 f2 l0 hh c0 c1 c2 c3 tb w0) (eq : EqS N pP pH pF pT p h f t) (ok : SnOk N p h f t) : Ct Z l yX8_days cX8_days 1 (some .int) (rmK 0) [.ref (x 0)] w0 (fun v w => v = some (.int (dg)) ∧ CI Z x N u tm er dg co pP pH pF pT op f1 f2 l0 hh c0 c1 c2 c3 tb w) := by
  have hN := ok.1
  refine (n_X8_days hC).weaken (fun v w h9 => ?_)
  obtain ⟨h1, h2⟩ := h9
  exact ⟨h1.trans (congrArg (fun z => some (Value.int z)) (rfl)), h2⟩
theorem k_lawsCarriedOut {Z : GZ} {l : Launch} {x : Nat → Nat} {N u tm : Nat} {er dg co : Int32} {pP pH pF pT op f1 f2 l0 tb : Nat → Int32} {hh c0 c1 c2 c3 : Nat → Nat} {p h f t : Nat → Nat} {w0 : va_W} (hC : CI Z x N u tm er dg co pP pH pF pT op f1 f2 l0 hh c0 c1 c2 c3 tb w0) (eq : EqS N pP pH pF pT p h f t) (ok : SnOk N p h f t) : Ct Z l yX8_lawsCarriedOut cX8_lawsCarriedOut 1 (some .int) (rmK 0) [.ref (x 0)] w0 (fun v w => v = some (.int (co)) ∧ CI Z x N u tm er dg co pP pH pF pT op f1 f2 l0 hh c0 c1 c2 c3 tb w) := by
  have hN := ok.1
  refine (n_X8_lawsCarriedOut hC).weaken (fun v w h9 => ?_)
  obtain ⟨h1, h2⟩ := h9
  exact ⟨h1.trans (congrArg (fun z => some (Value.int z)) (rfl)), h2⟩
theorem k_allHoursLost {Z : GZ} {l : Launch} {x : Nat → Nat} {N u tm : Nat} {er dg co : Int32} {pP pH pF pT op f1 f2 l0 tb : Nat → Int32} {hh c0 c1 c2 c3 : Nat → Nat} {p h f t : Nat → Nat} {w0 : va_W} (hC : CI Z x N u tm er dg co pP pH pF pT op f1 f2 l0 hh c0 c1 c2 c3 tb w0) (eq : EqS N pP pH pF pT p h f t) (ok : SnOk N p h f t) : Ct Z l yX8_allHoursLost cX8_allHoursLost 1 (some .int) (rmK 0) [.ref (x 0)] w0 (fun v w => v = some (.int (nI (alN p h f t N))) ∧ CI Z x N u tm er dg co pP pH pF pT op f1 f2 l0 hh c0 c1 c2 c3 tb w) := by
  have hN := ok.1
  refine (n_X8_allHoursLost hC).weaken (fun v w h9 => ?_)
  obtain ⟨h1, h2⟩ := h9
  exact ⟨h1.trans (congrArg (fun z => some (Value.int z)) (al_b eq ok)), h2⟩
theorem k_digest {Z : GZ} {l : Launch} {x : Nat → Nat} {N u tm : Nat} {er dg co : Int32} {pP pH pF pT op f1 f2 l0 tb : Nat → Int32} {hh c0 c1 c2 c3 : Nat → Nat} {p h f t : Nat → Nat} {w0 : va_W} (hC : CI Z x N u tm er dg co pP pH pF pT op f1 f2 l0 hh c0 c1 c2 c3 tb w0) (eq : EqS N pP pH pF pT p h f t) (ok : SnOk N p h f t) : Ct Z l yX8_digest cX8_digest 5 (some .long) (rmK 5) [.ref (x 0)] w0 (fun v w => v = some (.long (dgCn N u dg co pP pH pF pT)) ∧ CI Z x N u tm er dg co pP pH pF pT op f1 f2 l0 hh c0 c1 c2 c3 tb w) := by
  have hN := ok.1
  refine (n_X8_digest hC).weaken (fun v w h9 => ?_)
  obtain ⟨h1, h2⟩ := h9
  exact ⟨h1.trans (congrArg (fun z => some (Value.long z)) (rfl)), h2⟩
theorem EqS.upP {N a x : Nat} {P H F T : Nat → Int32} {p h f t : Nat → Nat} (e : EqS N P H F T p h f t) : EqS N (upd P a (nI x)) H F T (upN p a x) h f t := fun i hi => by
  obtain ⟨e1, e2, e3, e4⟩ := e i hi
  refine ⟨?_, e2, e3, e4⟩
  by_cases c : i = a
  · subst c; simp [upd, upN]
  · simp [upd, upN, c, e1]
theorem EqS.upH {N a x : Nat} {P H F T : Nat → Int32} {p h f t : Nat → Nat} (e : EqS N P H F T p h f t) : EqS N P (upd H a (nI x)) F T p (upN h a x) f t := fun i hi => by
  obtain ⟨e1, e2, e3, e4⟩ := e i hi
  refine ⟨e1, ?_, e3, e4⟩
  by_cases c : i = a
  · subst c; simp [upd, upN]
  · simp [upd, upN, c, e2]
theorem EqS.upC {N a x y : Nat} {P H F T : Nat → Int32} {p h f t : Nat → Nat} (e : EqS N P H F T p h f t) : EqS N P H (upd F a (cuI x)) (upd T a (cuI y)) p h (upN f a x) (upN t a y) := fun i hi => by
  obtain ⟨e1, e2, e3, e4⟩ := e i hi
  refine ⟨e1, e2, ?_, ?_⟩
  · by_cases c : i = a
    · subst c; simp [upd, upN]
    · simp [upd, upN, c, e3]
  · by_cases c : i = a
    · subst c; simp [upd, upN]
    · simp [upd, upN, c, e4]
theorem SnOk.upP {N a x : Nat} {p h f t : Nat → Nat} (ok : SnOk N p h f t) (hx : x < 100) : SnOk N (upN p a x) h f t := ⟨ok.1, fun i hi => by
  obtain ⟨e1, e2, e3⟩ := ok.2 i hi
  refine ⟨?_, e2, e3⟩
  by_cases c : i = a
  · subst c; simp [upN, hx]
  · simp [upN, c, e1]⟩
theorem SnOk.upH {N a x : Nat} {p h f t : Nat → Nat} (ok : SnOk N p h f t) (hx : x ≤ 30) : SnOk N p (upN h a x) f t := ⟨ok.1, fun i hi => by
  obtain ⟨e1, e2, e3⟩ := ok.2 i hi
  refine ⟨e1, ?_, e3⟩
  by_cases c : i = a
  · subst c; simp [upN, hx]
  · simp [upN, c, e2]⟩
theorem SnOk.upC {N a x y : Nat} {p h f t : Nat → Nat} (ok : SnOk N p h f t) (hx : (x = 0 ∧ y = 0) ∨ (6 ≤ x ∧ x ≤ y ∧ y ≤ 18)) : SnOk N p h (upN f a x) (upN t a y) := ⟨ok.1, fun i hi => by
  obtain ⟨e1, e2, e3⟩ := ok.2 i hi
  refine ⟨e1, e2, ?_⟩
  by_cases c : i = a
  · subst c; simp only [upN, if_true]; exact hx
  · simp only [upN, if_neg c]; exact e3⟩
theorem k_setCurfew {Z : GZ} {l : Launch} (hl : l.stackTraces = false) {x : Nat → Nat} {N u tm : Nat} {er dg co : Int32} {pP pH pF pT op f1 f2 l0 tb : Nat → Int32} {hh c0 c1 c2 c3 : Nat → Nat} {p h f t : Nat → Nat} {w0 : va_W} (hC : CI Z x N u tm er dg co pP pH pF pT op f1 f2 l0 hh c0 c1 c2 c3 tb w0) (eq : EqS N pP pH pF pT p h f t) (ok : SnOk N p h f t) {a y z : Nat} (ha : a < N) (hx : 6 ≤ y) (hxy : y ≤ z) (hy : z ≤ 18) : Ct Z l yX8_setCurfew cX8_setCurfew 4 (some .int) (rmM 8 2 12) [.ref (x 0), .int (nI a), .int (nI y), .int (nI z)] w0 (fun v w => v = some (.int (nI (alN p h (upN f a y) (upN t a z) N))) ∧ CI Z x N u tm er dg co pP pH (upd pF a (nI y)) (upd pT a (nI z)) op f1 f2 l0 hh c0 c1 c2 c3 tb w) := by
  have hN := ok.1
  refine ((n_X8_setCurfew hl (q := (nI a)) (fr_ := (nI y)) (to_ := (nI z)) hC).weaken (K' := fun v w => v = some (.int (nI (alN p h (upN f a y) (upN t a z) N))) ∧ CI Z x N u tm er dg co pP pH (upd pF a (nI y)) (upd pT a (nI z)) op f1 f2 l0 hh c0 c1 c2 c3 tb w) (KX' := fun _ => False) (fun v w h9 => ?_) (fun E h9 => ?_)).ct (fun E h => h)
  · obtain ⟨-, h1, h2⟩ := h9
    rw [nI_clamp (n := a) (by omega)] at h1 h2
    exact ⟨h1.trans (congrArg (fun z => some (Value.int z)) (al_b (by have := eq.upC (a := a) (x := y) (y := z); rwa [cu_nI (show ¬ y = 0 by omega), cu_nI (show ¬ z = 0 by omega)] at this) (ok.upC (Or.inr ⟨hx, hxy, hy⟩)))), h2⟩
  · rw [if_neg (fun z => z (hasB_nI ha hN)), if_neg (cu_ok hx hxy hy)] at h9
    rcases h9 with ⟨-, q⟩ | ⟨-, q⟩ <;> exact absurd q (by decide)
theorem k_endCurfew {Z : GZ} {l : Launch} (hl : l.stackTraces = false) {x : Nat → Nat} {N u tm : Nat} {er dg co : Int32} {pP pH pF pT op f1 f2 l0 tb : Nat → Int32} {hh c0 c1 c2 c3 : Nat → Nat} {p h f t : Nat → Nat} {w0 : va_W} (hC : CI Z x N u tm er dg co pP pH pF pT op f1 f2 l0 hh c0 c1 c2 c3 tb w0) (eq : EqS N pP pH pF pT p h f t) (ok : SnOk N p h f t) {a : Nat} (ha : a < N) (hf : ¬ f a = 0) : Ct Z l yX8_endCurfew cX8_endCurfew 2 (some .int) (rmM 8 2 12) [.ref (x 0), .int (nI a)] w0 (fun v w => v = some (.int (nI (alN p h (upN f a 0) (upN t a 0) N))) ∧ CI Z x N u tm er dg co pP pH (upd pF a (-1)) (upd pT a (-1)) op f1 f2 l0 hh c0 c1 c2 c3 tb w) := by
  have hN := ok.1
  refine ((n_X8_endCurfew hl (q := (nI a)) hC).weaken (K' := fun v w => v = some (.int (nI (alN p h (upN f a 0) (upN t a 0) N))) ∧ CI Z x N u tm er dg co pP pH (upd pF a (-1)) (upd pT a (-1)) op f1 f2 l0 hh c0 c1 c2 c3 tb w) (KX' := fun _ => False) (fun v w h9 => ?_) (fun E h9 => ?_)).ct (fun E h => h)
  · obtain ⟨-, h1, h2⟩ := h9
    rw [nI_clamp (n := a) (by omega)] at h1 h2
    exact ⟨h1.trans (congrArg (fun z => some (Value.int z)) (al_b (eq.upC (a := a) (x := 0) (y := 0)) (ok.upC (Or.inl ⟨rfl, rfl⟩)))), h2⟩
  · rw [if_neg (fun z => z (hasB_nI ha hN)), if_neg (fun z => hf (by rw [stAt_nI ha hN, (eq a ha).2.2.1] at z; exact (cu_m1 (by have := (ok.2 a ha).2.2; omega)).mp z))] at h9
    rcases h9 with ⟨-, q⟩ | ⟨-, q⟩ <;> exact absurd q (by decide)
theorem k_build {Z : GZ} {l : Launch} (hl : l.stackTraces = false) {x : Nat → Nat} {N u tm : Nat} {er dg co : Int32} {pP pH pF pT op f1 f2 l0 tb : Nat → Int32} {hh c0 c1 c2 c3 : Nat → Nat} {p h f t : Nat → Nat} {w0 : va_W} (hC : CI Z x N u tm er dg co pP pH pF pT op f1 f2 l0 hh c0 c1 c2 c3 tb w0) (eq : EqS N pP pH pF pT p h f t) (ok : SnOk N p h f t) {a y : Nat} (ha : a < N) (hx : y ≤ 30) : Ct Z l yX8_build cX8_build 4 (some .int) (rmM 8 2 12) [.ref (x 0), .int (nI a), .int (nI y)] w0 (fun v w => v = some (.int (nI (h a))) ∧ CI Z x N u tm er dg co pP (upd pH a (nI y)) pF pT op f1 f2 l0 hh c0 c1 c2 c3 tb w) := by
  have hN := ok.1
  refine ((n_X8_build hl (q := (nI a)) (x_ := (nI y)) hC).weaken (K' := fun v w => v = some (.int (nI (h a))) ∧ CI Z x N u tm er dg co pP (upd pH a (nI y)) pF pT op f1 f2 l0 hh c0 c1 c2 c3 tb w) (KX' := fun _ => False) (fun v w h9 => ?_) (fun E h9 => ?_)).ct (fun E h => h)
  · obtain ⟨-, h1, h2⟩ := h9
    rw [nI_clamp (n := a) (by omega)] at h2
    exact ⟨h1.trans (congrArg (fun z => some (Value.int z)) (by rw [stAt_nI ha hN]; exact (eq a ha).2.1)), h2⟩
  · rw [if_neg (fun z => z (hasB_nI ha hN)), if_neg (show ¬ (nI y < 0 ∨ 30 < nI y) from up_ok (m := 30) hx (by decide))] at h9
    rcases h9 with ⟨-, q⟩ | ⟨-, q⟩ <;> exact absurd q (by decide)
theorem k_move {Z : GZ} {l : Launch} (hl : l.stackTraces = false) {x : Nat → Nat} {N u tm : Nat} {er dg co : Int32} {pP pH pF pT op f1 f2 l0 tb : Nat → Int32} {hh c0 c1 c2 c3 : Nat → Nat} {p h f t : Nat → Nat} {w0 : va_W} (hC : CI Z x N u tm er dg co pP pH pF pT op f1 f2 l0 hh c0 c1 c2 c3 tb w0) (eq : EqS N pP pH pF pT p h f t) (ok : SnOk N p h f t) {a y : Nat} (ha : a < N) (hx : y < 100) (hne : ∀ j, j < N → ¬ j = a → ¬ p j = y) : Ct Z l yX8_move cX8_move 4 (some .int) (rmM 8 3 18) [.ref (x 0), .int (nI a), .int (nI y)] w0 (fun v w => v = some (.int (nI (p a))) ∧ CI Z x N u tm er dg co (upd pP a (nI y)) pH pF pT op f1 f2 l0 hh c0 c1 c2 c3 tb w) := by
  have hN := ok.1
  refine ((n_X8_move hl (q := (nI a)) (x_ := (nI y)) hC).weaken (K' := fun v w => v = some (.int (nI (p a))) ∧ CI Z x N u tm er dg co (upd pP a (nI y)) pH pF pT op f1 f2 l0 hh c0 c1 c2 c3 tb w) (KX' := fun _ => False) (fun v w h9 => ?_) (fun E h9 => ?_)).ct (fun E h => h)
  · obtain ⟨-, h1, h2⟩ := h9
    rw [nI_clamp (n := a) (by omega)] at h2
    exact ⟨h1.trans (congrArg (fun z => some (Value.int z)) (by rw [stAt_nI ha hN]; exact (eq a ha).1)), h2⟩
  · rw [if_neg (fun z => z (hasB_nI ha hN)), if_neg (show ¬ (nI y < 0 ∨ 99 < nI y) from up_ok (m := 99) (by omega) (by decide)), if_neg (fun ⟨j, hj, h1, h2⟩ => by rw [stAt_nI hj hN, (eq j hj).1] at h2; exact hne j hj (fun e => h1 (congrArg nI e)) ((nI_eq (by have := (ok.2 j hj).1; omega) (by omega)).mp h2))] at h9
    rcases h9 with ⟨-, q⟩ | ⟨-, q⟩ | ⟨-, q⟩ <;> exact absurd q (by decide)
theorem k_passDays {Z : GZ} {l : Launch} (hl : l.stackTraces = false) {x : Nat → Nat} {N u tm : Nat} {er dg co : Int32} {pP pH pF pT op f1 f2 l0 tb : Nat → Int32} {hh c0 c1 c2 c3 : Nat → Nat} {p h f t : Nat → Nat} {w0 : va_W} (hC : CI Z x N u tm er dg co pP pH pF pT op f1 f2 l0 hh c0 c1 c2 c3 tb w0) (eq : EqS N pP pH pF pT p h f t) (ok : SnOk N p h f t) {n : Nat} (h1 : 1 ≤ n) (h2 : n ≤ 30) : Ct Z l yX8_passDays cX8_passDays 4 (some .int) (rmM 12 1 6) [.ref (x 0), .int (nI n)] w0 (fun v w => v = some (.int ((dyN N pP op f1 f2 l0 hh c0 c1 c2 c3 u ((pH, pF, pT), co, dg) n).2.1 - co)) ∧ CI Z x N u tm er ((dyN N pP op f1 f2 l0 hh c0 c1 c2 c3 u ((pH, pF, pT), co, dg) n).2.2) ((dyN N pP op f1 f2 l0 hh c0 c1 c2 c3 u ((pH, pF, pT), co, dg) n).2.1) pP ((dyN N pP op f1 f2 l0 hh c0 c1 c2 c3 u ((pH, pF, pT), co, dg) n).1.1) ((dyN N pP op f1 f2 l0 hh c0 c1 c2 c3 u ((pH, pF, pT), co, dg) n).1.2.1) ((dyN N pP op f1 f2 l0 hh c0 c1 c2 c3 u ((pH, pF, pT), co, dg) n).1.2.2) op f1 f2 l0 hh c0 c1 c2 c3 tb w) := by
  have hN := ok.1
  refine ((n_X8_passDays hl (q := (nI n)) hC).weaken (K' := fun v w => v = some (.int ((dyN N pP op f1 f2 l0 hh c0 c1 c2 c3 u ((pH, pF, pT), co, dg) n).2.1 - co)) ∧ CI Z x N u tm er ((dyN N pP op f1 f2 l0 hh c0 c1 c2 c3 u ((pH, pF, pT), co, dg) n).2.2) ((dyN N pP op f1 f2 l0 hh c0 c1 c2 c3 u ((pH, pF, pT), co, dg) n).2.1) pP ((dyN N pP op f1 f2 l0 hh c0 c1 c2 c3 u ((pH, pF, pT), co, dg) n).1.1) ((dyN N pP op f1 f2 l0 hh c0 c1 c2 c3 u ((pH, pF, pT), co, dg) n).1.2.1) ((dyN N pP op f1 f2 l0 hh c0 c1 c2 c3 u ((pH, pF, pT), co, dg) n).1.2.2) op f1 f2 l0 hh c0 c1 c2 c3 tb w) (KX' := fun _ => False) (fun v w h9 => ?_) (fun E h9 => ?_)).ct (fun E h => h)
  · obtain ⟨-, h1, h2⟩ := h9
    rw [nI_clamp (n := n) (by omega)] at h1 h2
    exact ⟨h1.trans (congrArg (fun z => some (Value.int z)) (rfl)), h2⟩
  · rw [if_neg (show ¬ (nI n < 1 ∨ 30 < nI n) from lo_ok (m := 30) h1 h2 (by decide))] at h9
    rcases h9 with ⟨-, q⟩
    exact absurd q (by decide)
theorem k_lostAfter {Z : GZ} {l : Launch} (hl : l.stackTraces = false) {x : Nat → Nat} {N u tm : Nat} {er dg co : Int32} {pP pH pF pT op f1 f2 l0 tb : Nat → Int32} {hh c0 c1 c2 c3 : Nat → Nat} {p h f t : Nat → Nat} {w0 : va_W} (hC : CI Z x N u tm er dg co pP pH pF pT op f1 f2 l0 hh c0 c1 c2 c3 tb w0) (eq : EqS N pP pH pF pT p h f t) (ok : SnOk N p h f t) {n : Nat} (h1 : 1 ≤ n) (h2 : n ≤ 30) : Ct Z l yX8_lostAfter cX8_lostAfter 3 (some .int) (rmM 12 1 6) [.ref (x 0), .int (nI n)] w0 (fun v w => v = some (.int (lgD N pP (dyN N pP op f1 f2 l0 hh c0 c1 c2 c3 u ((pH, pF, pT), co, dg) n))) ∧ CI Z x N u tm er dg co pP pH pF pT op f1 f2 l0 hh c0 c1 c2 c3 tb w) := by
  have hN := ok.1
  refine ((n_X8_lostAfter hl (q := (nI n)) hC).weaken (K' := fun v w => v = some (.int (lgD N pP (dyN N pP op f1 f2 l0 hh c0 c1 c2 c3 u ((pH, pF, pT), co, dg) n))) ∧ CI Z x N u tm er dg co pP pH pF pT op f1 f2 l0 hh c0 c1 c2 c3 tb w) (KX' := fun _ => False) (fun v w h9 => ?_) (fun E h9 => ?_)).ct (fun E h => h)
  · obtain ⟨-, h1, h2⟩ := h9
    rw [nI_clamp (n := n) (by omega)] at h1
    exact ⟨h1.trans (congrArg (fun z => some (Value.int z)) (rfl)), h2⟩
  · rw [if_neg (show ¬ (nI n < 1 ∨ 30 < nI n) from lo_ok (m := 30) h1 h2 (by decide))] at h9
    rcases h9 with ⟨-, q⟩
    exact absurd q (by decide)
theorem k_daysUntilLight {Z : GZ} {l : Launch} {x : Nat → Nat} {N u tm : Nat} {er dg co : Int32} {pP pH pF pT op f1 f2 l0 tb : Nat → Int32} {hh c0 c1 c2 c3 : Nat → Nat} {p h f t : Nat → Nat} {w0 : va_W} (hC : CI Z x N u tm er dg co pP pH pF pT op f1 f2 l0 hh c0 c1 c2 c3 tb w0) (eq : EqS N pP pH pF pT p h f t) (ok : SnOk N p h f t) : Ct Z l yX8_daysUntilLight cX8_daysUntilLight 2 (some .int) (rmK 10) [.ref (x 0)] w0 (fun v w => v = some (.int (duX N pP op f1 f2 l0 hh c0 c1 c2 c3 u ((pH, pF, pT), co, dg))) ∧ CI Z x N u tm er dg co pP pH pF pT op f1 f2 l0 hh c0 c1 c2 c3 tb w) := by
  have hN := ok.1
  refine (n_X8_daysUntilLight hC).weaken (fun v w h9 => ?_)
  obtain ⟨h1, h2⟩ := h9
  exact ⟨h1.trans (congrArg (fun z => some (Value.int z)) (rfl)), h2⟩
theorem k_fairCurfew {Z : GZ} {l : Launch} (hl : l.stackTraces = false) {x : Nat → Nat} {N u tm : Nat} {er dg co : Int32} {pP pH pF pT op f1 f2 l0 tb : Nat → Int32} {hh c0 c1 c2 c3 : Nat → Nat} {p h f t : Nat → Nat} {w0 : va_W} (hC : CI Z x N u tm er dg co pP pH pF pT op f1 f2 l0 hh c0 c1 c2 c3 tb w0) (eq : EqS N pP pH pF pT p h f t) (ok : SnOk N p h f t) {a n : Nat} (ha : a < N) (h1 : 1 ≤ n) (h2 : n ≤ 13) : Ct Z l yX8_fairCurfew cX8_fairCurfew 6 (some .int) (rmM 10 2 12) [.ref (x 0), .int (nI a), .int (nI n)] w0 (fun v w => v = some (.int ((frX (fcV N pP pH pF pT n a) (14 - n)).1)) ∧ CI Z x N u tm er dg co pP pH pF pT op f1 f2 l0 hh c0 c1 c2 c3 tb w) := by
  have hN := ok.1
  refine ((n_X8_fairCurfew hl (q := (nI a)) (g := (nI n)) hC).weaken (K' := fun v w => v = some (.int ((frX (fcV N pP pH pF pT n a) (14 - n)).1)) ∧ CI Z x N u tm er dg co pP pH pF pT op f1 f2 l0 hh c0 c1 c2 c3 tb w) (KX' := fun _ => False) (fun v w h9 => ?_) (fun E h9 => ?_)).ct (fun E h => h)
  · obtain ⟨-, h1, h2⟩ := h9
    rw [nI_clamp (n := a) (by omega), nI_clamp (n := n) (by omega)] at h1
    exact ⟨h1.trans (congrArg (fun z => some (Value.int z)) (rfl)), h2⟩
  · rw [if_neg (fun z => z (hasB_nI ha hN)), if_neg (show ¬ (nI n < 1 ∨ 13 < nI n) from lo_ok (m := 13) h1 h2 (by decide))] at h9
    rcases h9 with ⟨-, q⟩ | ⟨-, q⟩ <;> exact absurd q (by decide)
theorem k_fairestWall {Z : GZ} {l : Launch} (hl : l.stackTraces = false) {x : Nat → Nat} {N u tm : Nat} {er dg co : Int32} {pP pH pF pT op f1 f2 l0 tb : Nat → Int32} {hh c0 c1 c2 c3 : Nat → Nat} {p h f t : Nat → Nat} {w0 : va_W} (hC : CI Z x N u tm er dg co pP pH pF pT op f1 f2 l0 hh c0 c1 c2 c3 tb w0) (eq : EqS N pP pH pF pT p h f t) (ok : SnOk N p h f t) {n : Nat} (h1 : 1 ≤ n) (h2 : n ≤ 13) : Ct Z l yX8_fairestWall cX8_fairestWall 6 (some .int) (rmM 10 1 6) [.ref (x 0), .int (nI n)] w0 (fun v w => v = some (.int ((owX (fcV N pP pH pF pT n) (14 - n) (-1, laG N pP pH pF pT) N).1)) ∧ CI Z x N u tm er dg co pP pH pF pT op f1 f2 l0 hh c0 c1 c2 c3 tb w) := by
  have hN := ok.1
  refine ((n_X8_fairestWall hl (g := (nI n)) hC).weaken (K' := fun v w => v = some (.int ((owX (fcV N pP pH pF pT n) (14 - n) (-1, laG N pP pH pF pT) N).1)) ∧ CI Z x N u tm er dg co pP pH pF pT op f1 f2 l0 hh c0 c1 c2 c3 tb w) (KX' := fun _ => False) (fun v w h9 => ?_) (fun E h9 => ?_)).ct (fun E h => h)
  · obtain ⟨-, h1, h2⟩ := h9
    rw [nI_clamp (n := n) (by omega)] at h1
    exact ⟨h1.trans (congrArg (fun z => some (Value.int z)) (rfl)), h2⟩
  · rw [if_neg (show ¬ (nI n < 1 ∨ 13 < nI n) from lo_ok (m := 13) h1 h2 (by decide))] at h9
    rcases h9 with ⟨-, q⟩
    exact absurd q (by decide)
theorem k_feed {Z : GZ} {l : Launch} (hl : l.stackTraces = false) {x : Nat → Nat} {N u tm : Nat} {er dg co : Int32} {pP pH pF pT op f1 f2 l0 tb : Nat → Int32} {hh c0 c1 c2 c3 : Nat → Nat} {p h f t : Nat → Nat} {w0 : va_W} (hC : CI Z x N u tm er dg co pP pH pF pT op f1 f2 l0 hh c0 c1 c2 c3 tb w0) (eq : EqS N pP pH pF pT p h f t) (ok : SnOk N p h f t) {i0 i1 i2 i3 i4 : Int32} (h1 : tm ≤ 1980) : Ct Z l yX8_feed cX8_feed 6 (some .int) (rmM 8 1 6) [.ref (x 0), .int i0, .int i1, .int i2, .int i3, .int i4] w0 (fun v w => v = some (.int (nI (tm + 20))) ∧ CI Z x N u (tm + 20) er dg co pP pH pF pT op f1 f2 l0 hh c0 c1 c2 c3 (apF (apF (apF (apF (apF tb tm i0) (tm + 4) i1) (tm + 8) i2) (tm + 12) i3) (tm + 16) i4) w) := by
  have hN := ok.1
  refine ((n_X8_feed hl (i0 := i0) (i1 := i1) (i2 := i2) (i3 := i3) (i4 := i4) hC).weaken (K' := fun v w => v = some (.int (nI (tm + 20))) ∧ CI Z x N u (tm + 20) er dg co pP pH pF pT op f1 f2 l0 hh c0 c1 c2 c3 (apF (apF (apF (apF (apF tb tm i0) (tm + 4) i1) (tm + 8) i2) (tm + 12) i3) (tm + 16) i4) w) (KX' := fun _ => False) (fun v w h9 => ?_) (fun E h9 => ?_)).ct (fun E h => h)
  · obtain ⟨-, h1, h2⟩ := h9
    exact ⟨h1.trans (congrArg (fun z => some (Value.int z)) (rfl)), h2⟩
  · rw [if_neg (fun z => z h1)] at h9
    rcases h9 with ⟨-, q⟩
    exact absurd q (by decide)
theorem k_trim {Z : GZ} {l : Launch} (hl : l.stackTraces = false) {x : Nat → Nat} {N u tm : Nat} {er dg co : Int32} {pP pH pF pT op f1 f2 l0 tb : Nat → Int32} {hh c0 c1 c2 c3 : Nat → Nat} {p h f t : Nat → Nat} {w0 : va_W} (hC : CI Z x N u tm er dg co pP pH pF pT op f1 f2 l0 hh c0 c1 c2 c3 tb w0) (eq : EqS N pP pH pF pT p h f t) (ok : SnOk N p h f t) {n : Nat} (h1 : n ≤ tm) : Ct Z l yX8_trim cX8_trim 2 (some .int) (rmM 8 1 6) [.ref (x 0), .int (nI n)] w0 (fun v w => v = some (.int (nI n)) ∧ CI Z x N u n er dg co pP pH pF pT op f1 f2 l0 hh c0 c1 c2 c3 tb w) := by
  have hN := ok.1
  refine ((n_X8_trim hl (q := (nI n)) hC).weaken (K' := fun v w => v = some (.int (nI n)) ∧ CI Z x N u n er dg co pP pH pF pT op f1 f2 l0 hh c0 c1 c2 c3 tb w) (KX' := fun _ => False) (fun v w h9 => ?_) (fun E h9 => ?_)).ct (fun E h => h)
  · obtain ⟨-, h1, h2⟩ := h9
    rw [nI_clamp (n := n) (by have := hC.1.2.2.1; omega)] at h2
    exact ⟨h1.trans (congrArg (fun z => some (Value.int z)) (rfl)), h2⟩
  · rw [if_neg (fun q => q.elim (nI_pos (n := n) (by have := hC.1.2.2.1; omega)) (nI_nlt (a := tm) (b := n) h1 (by have := hC.1.2.2.1; omega)))] at h9
    rcases h9 with ⟨-, q⟩
    exact absurd q (by decide)
