/-! Calls with the callee's cells as a block of the caller's list; rooms. -/
def rmK (n : Nat) : Room := { frames := n, cells := 0, slots := 0, locals := 40 * n }
def rmM (n mc ms : Nat) : Room := { frames := n, cells := mc, slots := ms, locals := 40 * n }
theorem va_joinT {A0 : Nat → Prop} {D : va_G} {cl : List vw_C} {X w0 w1 : va_W} {H H1 : Heap} (hP : va_P D cl (X ++ w0) H) (hD : va_D A0 (X ++ w0))
    (hk : ∀ q : Nat, q < H.size → ¬ va_A w0 H.size q → H1[q]? = H[q]?) (hF : ∀ q, va_A w0 H.size q → A0 q) (hP1 : va_P D cl w1 H1) (hD1 : va_D (va_A w0 H.size) w1) : va_P D cl (X ++ w1) H1 ∧ va_D A0 (X ++ w1) := by
  have inX : ∀ (k : Nat) (q : Nat × va_E), X[k]? = some q → k < X.length ∧ (X ++ w0)[k]? = some q := by
    intro k q h
    have hk : k < X.length := (List.getElem?_eq_some_iff.mp h).1
    exact ⟨hk, by rw [List.getElem?_append_left hk]; exact h⟩
  have apart : ∀ (k : Nat) (q : Nat × va_E), X[k]? = some q → q.1 < H.size ∧ ¬ va_A w0 H.size q.1 := by
    intro k q h
    obtain ⟨hk, h2⟩ := inX k q h
    have hl := (hP k q h2).lt
    refine ⟨hl, fun h3 => ?_⟩
    rcases h3 with ⟨j, e, hj⟩ | h3
    · have h4 : (X ++ w0)[X.length + j]? = some (q.1, e) := by
        rw [List.getElem?_append_right (Nat.le_add_right _ _), Nat.add_sub_cancel_left]
        exact hj
      have := hD.1 k (X.length + j) q (q.1, e) h2 h4 rfl
      omega
    · omega
  refine ⟨fun k q h => ?_, fun i j p q hi hj e => ?_, fun k q h => ?_⟩
  · by_cases hk2 : k < X.length
    · rw [List.getElem?_append_left hk2] at h
      obtain ⟨h1, h2⟩ := apart k q h
      exact (hP k q (inX k q h).2).kept (hk q.1 h1 h2)
    · rw [List.getElem?_append_right (by omega)] at h
      exact hP1 _ q h
  · by_cases hi2 : i < X.length
    · rw [List.getElem?_append_left hi2] at hi
      by_cases hj2 : j < X.length
      · rw [List.getElem?_append_left hj2] at hj
        exact hD.1 i j p q (inX i p hi).2 (inX j q hj).2 e
      · rw [List.getElem?_append_right (by omega)] at hj
        exact absurd (e ▸ hD1.2 _ q hj) (apart i p hi).2
    · rw [List.getElem?_append_right (by omega)] at hi
      by_cases hj2 : j < X.length
      · rw [List.getElem?_append_left hj2] at hj
        exact absurd (e ▸ hD1.2 _ p hi) (apart j q hj).2
      · rw [List.getElem?_append_right (by omega)] at hj
        have := hD1.1 _ _ p q hi hj e
        omega
  · by_cases hk2 : k < X.length
    · rw [List.getElem?_append_left hk2] at h
      exact hD.2 k q (inX k q h).2
    · rw [List.getElem?_append_right (by omega)] at h
      exact hF _ (hD1.2 _ q h)
theorem va_joinB {A0 : Nat → Prop} {D : va_G} {cl : List vw_C} {a w0 w1 b : va_W} {H H1 : Heap} (hP : va_P D cl ((a ++ w0) ++ b) H) (hD : va_D A0 ((a ++ w0) ++ b))
    (hk : ∀ q : Nat, q < H.size → ¬ va_A w0 H.size q → H1[q]? = H[q]?) (hF : ∀ q, va_A w0 H.size q → A0 q) (hP1 : va_P D cl w1 H1) (hD1 : va_D (va_A w0 H.size) w1) : va_P D cl ((a ++ w1) ++ b) H1 ∧ va_D A0 ((a ++ w1) ++ b) := by
  obtain ⟨h1, h2⟩ := va_joinT hP.swap hD.swap hk hF hP1 hD1
  exact ⟨h1.swap, h2.swap⟩
theorem blk_P {D : va_G} {cl : List vw_C} {a w0 b : va_W} {H : Heap} (hP : va_P D cl ((a ++ w0) ++ b) H) : va_P D cl w0 H := fun k q h => hP (a.length + k) q (by
  have hk : k < w0.length := (List.getElem?_eq_some_iff.mp h).1
  rw [List.getElem?_append_left (by rw [List.length_append]; omega), List.getElem?_append_right (Nat.le_add_right _ _), Nat.add_sub_cancel_left]
  exact h)
theorem blk_at {a w0 b : va_W} {k : Nat} {q : Nat × va_E} (h : w0[k]? = some q) : ((a ++ w0) ++ b)[a.length + k]? = some q := by
  have hk : k < w0.length := (List.getElem?_eq_some_iff.mp h).1
  rw [List.getElem?_append_left (by rw [List.length_append]; omega), List.getElem?_append_right (Nat.le_add_right _ _), Nat.add_sub_cancel_left]
  exact h
theorem blk_D {A : Nat → Prop} {a w0 b : va_W} (hD : va_D A ((a ++ w0) ++ b)) : va_D A w0 := ⟨fun i j p q hi hj e => by
  have := hD.1 _ _ p q (blk_at (a := a) (b := b) hi) (blk_at (a := a) (b := b) hj) e
  omega, fun k q h => hD.2 _ q (blk_at (a := a) (b := b) h)⟩
theorem blk_F {A0 : Nat → Prop} {a w0 b : va_W} {H0 H : Heap} {locs : List Loc} (hD : va_D A0 ((a ++ w0) ++ b)) (hS : va_S A0 H0 H locs) (hA : ∀ q, H0.size ≤ q → A0 q) : ∀ q, va_A w0 H.size q → A0 q := by
  intro q h
  rcases h with ⟨k, e, h⟩ | h
  · exact hD.2 _ (q, e) (blk_at (a := a) (b := b) h)
  · exact hA q (Nat.le_trans hS.1 h)
theorem bpre {Z : GZ} {X : CX} {cc : ByteArray} {nL : Nat} {own : String} (C : Cx Z X cc nL own) {wa wb w0 : va_W} {H : Heap} {locs : List Loc} (hP : va_P Z.1 vwCl ((wa ++ w0) ++ wb) H) (hD : va_D (cF X) ((wa ++ w0) ++ wb)) (hS : va_S (cF X) (cS X).heap H locs) (av : List Value) :
    ∀ U : State, U.heap = H → (cS X).WarmedH U.vm → va_Pc av (fun U => U.heap.size = H.size ∧ va_P Z.1 vwCl w0 U.heap ∧ KW Z U ∧ va_D (fun _ => True) w0 ∧ SF Z (va_A w0 H.size) U U.heap) av.toArray U := by
  intro U hU hW
  have hF := blk_F hD hS C.2.2.2.2.2.2.2
  exact ⟨rfl, by rw [hU], by rw [hU]; exact blk_P hP, C.2.2.2.2.2.1.warm hW, (blk_D hD).weaken (fun _ _ _ _ => trivial), by rw [hU]; exact ((C.2.2.2.2.2.2.1.kept hS.2.1).moved hW.alike).narrow hF⟩
theorem bend {Z : GZ} {X : CX} {R : Room} {nL : Nat} {Q : State → Prop} {rc rs rc2 rs2 pc nx : Nat} {lv : List (Nat × Value)} {st st0 : List Value} {wa wb w0 : va_W} {cc : ByteArray} {own : String} (C : Cx Z X cc nL own) {K : Option Value → va_W → Prop} {rmB : Room} {a : Array Value} {H : Heap} {locs : List Loc} {cells slots : Nat} {ls : Array Slot}
    (hrc : rc = rmB.cells + rc2) (hrs : rs = rmB.slots + rs2)
    (hc : cells + rc ≤ R.cells) (hs : slots + rs ≤ R.slots) (hl : lv_has ls nL lv) (hP : va_P Z.1 vwCl ((wa ++ w0) ++ wb) H) (hD : va_D (cF X) ((wa ++ w0) ++ wb)) (hS : va_S (cF X) (cS X).heap H locs) (hnx : pc + 3 = nx)
    (run : va_Run (cP X) (cL X) (cE X) R (cS X) (cM X) (cA X) (cB X) (cMe X) (cC X) H locs cells slots rmB.cells rmB.slots (F0 (cM X) pc ls st0) st ((fun _ st o t => (∃ v w1, o = .returned v ∧ K v w1 ∧ va_P Z.1 vwCl w1 t.heap ∧ va_D (va_A w0 H.size) w1) ∧ va_F (va_A w0 H.size) st t) a) (va_A w0 H.size))
    (k : ∀ v w1, K v w1 → Jd Z X R nL Q rc2 rs2 nx lv (v.toList ++ st) ((wa ++ w1) ++ wb)) :
    W (cP X) (cL X) (cE X) R (cS X) (cM X) (cA X) (cB X) (cMe X) (cC X) H locs cells slots Q (F0 (cM X) pc ls st0) := by
  have hF := blk_F hD hS C.2.2.2.2.2.2.2
  intro T hT Xs
  obtain ⟨v, st₀, t, T', L, h0, X', hL, e1, e2, ⟨⟨v', w1, hv, hK, hP1, hD1⟩, hz, hk⟩, go⟩ := run T hT Xs
  cases hv
  rw [h0] at hz hk
  obtain ⟨hP', hD'⟩ := va_joinB (H1 := T'.heap) hP hD (fun q h1 h2 => by rw [e1]; exact hk q h1 h2) hF (by rw [e1]; exact hP1) hD1
  have hS' : va_S (cF X) (cS X).heap T'.heap (locs ++ L) := ⟨Nat.le_trans hS.1 (by rw [e1]; exact hz), fun q h1 h2 => by rw [e1, hk q (Nat.lt_of_lt_of_le h1 hS.1) (fun z => h2 (hF q z))]; exact hS.2.1 q h1 h2, fun q hq => by
    rcases List.mem_append.mp hq with h | h
    · exact hS.2.2 q h
    · exact hF _ (hL q h)⟩
  subst hnx
  obtain ⟨t2, a1, b1⟩ := k v w1 hK ls T'.heap (locs ++ L) (cells + rmB.cells) (slots + rmB.slots) (by omega) (by omega) hl hP' hD' hS' T' rfl X'
  exact ⟨t2, go t2 a1, b1⟩
