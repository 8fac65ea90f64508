/-! The registry that cells choose: what told makes. -/
theorem pgF : ∀ (S : List Nat) (m : Nat) (c : Nat → Nat), (∀ i j, i < m → j < m → c i = c j → i = j) → S.length < m → ∃ i, i < m ∧ ¬ c i ∈ S
  | [], m, c, _, h => ⟨0, h, by simp⟩
  | s :: S, m, c, hc, h => by
    have h2 : S.length + 1 < m := h
    by_cases e : ∃ i0, i0 < m ∧ c i0 = s
    · obtain ⟨i0, hi0, e0⟩ := e
      obtain ⟨i, hi, hn⟩ := pgF S (m - 1) (fun i => if i < i0 then c i else c (i + 1)) (by
        intro i j hi hj q
        split at q <;> split at q
        · exact hc i j (by omega) (by omega) q
        · have := hc i (j + 1) (by omega) (by omega) q
          omega
        · have := hc (i + 1) j (by omega) (by omega) q
          omega
        · have := hc (i + 1) (j + 1) (by omega) (by omega) q
          omega) (by omega)
      split at hn
      · refine ⟨i, by omega, fun q => ?_⟩
        rcases List.mem_cons.mp q with q | q
        · have := hc i i0 (by omega) hi0 (q.trans e0.symm)
          omega
        · exact hn q
      · refine ⟨i + 1, by omega, fun q => ?_⟩
        rcases List.mem_cons.mp q with q | q
        · have := hc (i + 1) i0 (by omega) hi0 (q.trans e0.symm)
          omega
        · exact hn q
    · obtain ⟨i, hi, hn⟩ := pgF S m c hc (by omega)
      refine ⟨i, hi, fun q => ?_⟩
      rcases List.mem_cons.mp q with q | q
      · exact e ⟨i, hi, q⟩
      · exact hn q
/-- one place on, again and again -/
def stepN (w x : Nat) : Nat → Nat
  | 0 => x
  | j + 1 => (stepN w x j + 1) % w
def pbN (w : Nat) (S : List Nat) (x : Nat) : Nat → Nat
  | 0 => 0
  | f + 1 => if x ∈ S then pbN w S ((x + 1) % w) f + 1 else 0
def prN (w : Nat) (S : List Nat) (x : Nat) : Nat := stepN w x (pbN w S x 10)
theorem stepN_s (w x : Nat) : ∀ j, stepN w ((x + 1) % w) j = stepN w x (j + 1)
  | 0 => rfl
  | j + 1 => by rw [stepN, stepN_s w x j]; rfl
theorem stepN_lt {w x : Nat} (hx : x < w) : ∀ j, stepN w x j < w
  | 0 => hx
  | j + 1 => Nat.mod_lt _ (by omega)
theorem stepN_eq {w x : Nat} (hw : w = 30 ∨ w = 100) (hx : x < w) : ∀ j, stepN w x j = (x + j) % w
  | 0 => (Nat.mod_eq_of_lt hx).symm
  | j + 1 => by
    rw [stepN, stepN_eq hw hx j]
    rcases hw with rfl | rfl <;> omega
theorem pbN_in (w : Nat) (S : List Nat) : ∀ (f x j : Nat), j < pbN w S x f → stepN w x j ∈ S
  | 0, _, _, h => absurd h (Nat.not_lt_zero _)
  | f + 1, x, j, h => by
    rw [pbN] at h
    split at h
    · rename_i hm
      cases j with
      | zero => exact hm
      | succ j =>
        rw [← stepN_s]
        exact pbN_in w S f _ j (by omega)
    · exact absurd h (Nat.not_lt_zero _)
theorem pbN_out (w : Nat) (S : List Nat) : ∀ (f x : Nat), (∃ i, i < f ∧ ¬ stepN w x i ∈ S) → ¬ stepN w x (pbN w S x f) ∈ S
  | 0, _, h => by obtain ⟨i, hi, -⟩ := h; exact absurd hi (Nat.not_lt_zero _)
  | f + 1, x, h => by
    rw [pbN]
    split
    · rename_i hm
      rw [← stepN_s]
      refine pbN_out w S f _ ?_
      obtain ⟨i, hi, hn⟩ := h
      cases i with
      | zero => exact absurd hm hn
      | succ i => exact ⟨i, by omega, by rw [stepN_s]; exact hn⟩
    · assumption
theorem pbN_le (w : Nat) (S : List Nat) : ∀ (f x : Nat), pbN w S x f ≤ f
  | 0, _ => Nat.le_refl _
  | f + 1, x => by
    rw [pbN]
    split
    · have := pbN_le w S f ((x + 1) % w)
      omega
    · omega
theorem prN_out {w : Nat} {S : List Nat} {x : Nat} (hw : w = 30 ∨ w = 100) (hx : x < w) (hS : S.length < 10) : ¬ prN w S x ∈ S := by
  refine pbN_out w S 10 x ?_
  obtain ⟨i, hi, hn⟩ := pgF S 10 (stepN w x) (by
    intro i j hi hj e
    rw [stepN_eq hw hx, stepN_eq hw hx] at e
    rcases hw with rfl | rfl <;> omega) hS
  exact ⟨i, hi, hn⟩
theorem prN_lt {w : Nat} {S : List Nat} {x : Nat} (hx : x < w) : prN w S x < w := stepN_lt hx _
def toN (Z : GZ) : Nat := 1 + belN (ceN Z 0) 9
def toW (Z : GZ) : Nat := if belN (ceN Z 0 >>> ((5 : Int32) &&& 31)) 3 = 0 then 100 else 30
def toX (Z : GZ) (h : Nat) : Int32 := ceN Z (1 + h) >>> ((1 : Int32) &&& 31)
def plL (Z : GZ) : Nat → List Nat
  | 0 => []
  | h + 1 => plL Z h ++ [prN (toW Z) (plL Z h) (belN (toX Z h) (toW Z))]
def toP (Z : GZ) (h : Nat) : Nat := prN (toW Z) (plL Z h) (belN (toX Z h) (toW Z))
def toG (Z : GZ) (h : Nat) : Nat := if belN (toX Z h >>> ((7 : Int32) &&& 31)) 3 = 0 then 31 else 9
def toH (Z : GZ) (h : Nat) : Nat := belN (toX Z h >>> ((4 : Int32) &&& 31)) (toG Z h)
def zzN : Nat → Nat := fun _ => 0
def toM (Z : GZ) : Nat := belN (ceN Z 13) 5
def toY (Z : GZ) (k : Nat) : Int32 := (ceN Z (3 + k) >>> ((3 : Int32) &&& 31)) + nI (17 * k)
def toK (Z : GZ) (k : Nat) : Nat := if belN (toY Z k) 5 < 2 then 0 else if belN (toY Z k) 5 < 4 then 2 else 1
def toV (Z : GZ) (k : Nat) : Nat := belN (toY Z k >>> ((2 : Int32) &&& 31)) (toN Z)
def oneQ (Z : GZ) (k : Nat) : TN := (false, toY Z k >>> ((3 : Int32) &&& 31), 1)
def twoQ (Z : GZ) (k : Nat) : TN := (false, (toY Z k >>> ((2 : Int32) &&& 31)) + 5, 1)
def tesQ (Z : GZ) (k : Nat) : TN := (true, toY Z k >>> ((3 : Int32) &&& 31), 0)
def hasT (Z : GZ) (k : Nat) : Bool := !decide (belN (toY Z k >>> ((4 : Int32) &&& 31)) 3 = 0)
theorem toN_in (Z : GZ) : 1 ≤ toN Z ∧ toN Z ≤ 9 := by
  have := belN_lt (x := ceN Z 0) (n := 9) (by decide)
  unfold toN
  omega
theorem toM_in (Z : GZ) : toM Z ≤ 4 := by
  have := belN_lt (x := ceN Z 13) (n := 5) (by decide)
  unfold toM
  omega
theorem toW_in (Z : GZ) : toW Z = 30 ∨ toW Z = 100 := by
  unfold toW
  split <;> omega
theorem plL_len (Z : GZ) : ∀ h, (plL Z h).length = h
  | 0 => rfl
  | h + 1 => by rw [plL, List.length_append, plL_len Z h]; rfl
theorem toP_lt (Z : GZ) (h : Nat) : toP Z h < 100 := by
  have h1 := toW_in Z
  have h2 := belN_lt (x := toX Z h) (n := toW Z) (by omega)
  have h3 := prN_lt (S := plL Z h) h2
  unfold toP
  omega
theorem toP_out (Z : GZ) {h : Nat} (hh : h < 10) : ¬ toP Z h ∈ plL Z h := by
  have h1 := toW_in Z
  exact prN_out h1 (belN_lt (by omega)) (by rw [plL_len]; exact hh)
theorem plL_mem (Z : GZ) : ∀ {h i : Nat}, i < h → toP Z i ∈ plL Z h
  | 0, _, hi => absurd hi (Nat.not_lt_zero _)
  | h + 1, i, hi => by
    rw [plL, List.mem_append]
    by_cases e : i = h
    · subst e
      exact Or.inr (List.mem_singleton.mpr rfl)
    · exact Or.inl (plL_mem Z (by omega))
/-- houses stand apart -/
theorem toP_ne (Z : GZ) {i j : Nat} (hj : j < 10) (h : i < j) : toP Z i ≠ toP Z j := fun e => toP_out Z hj (e ▸ plL_mem Z h)
theorem toG_in (Z : GZ) (h : Nat) : 0 < toG Z h ∧ toG Z h ≤ 31 := by
  unfold toG
  split <;> omega
theorem toH_le (Z : GZ) (h : Nat) : toH Z h ≤ 30 := by
  have h1 := toG_in Z h
  have h2 := belN_lt (x := toX Z h >>> ((4 : Int32) &&& 31)) h1.1
  unfold toH
  omega
theorem toV_lt (Z : GZ) (k : Nat) : toV Z k < toN Z := belN_lt (by have := toN_in Z; omega)
theorem toK_in (Z : GZ) (k : Nat) : toK Z k = 0 ∨ toK Z k = 1 ∨ toK Z k = 2 := by
  unfold toK
  split
  · exact Or.inl rfl
  · split
    · exact Or.inr (Or.inr rfl)
    · exact Or.inr (Or.inl rfl)
/-- rows grow -/
theorem row_mk {p h : Nat → Nat} {i : Nat} : upd (upd (upd (upd (fun _ => 0) 0 (nI (p i))) 1 (nI (h i))) 2 (-1)) 3 (-1) = rowF p h zzN zzN i := by
  funext k
  simp only [upd, rowF, zzN]
  by_cases e0 : k = 0
  · subst e0; rfl
  · by_cases e1 : k = 1
    · subst e1; rfl
    · by_cases e2 : k = 2
      · subst e2; rfl
      · by_cases e3 : k = 3
        · subst e3; rfl
        · simp [e0, e1, e2, e3]
theorem wRw_snoc {Z : GZ} {n a : Nat} {rw p h f t : Nat → Nat} : wRw Z (n + 1) (upN rw n a) p h f t = wRw Z n rw p h f t ++ arrI Z a 4 (rowF p h f t n) := by
  rw [wRw, List.range_succ, List.map_append, wRw]
  congr 1
  · apply List.map_congr_left
    intro j hj
    have := List.mem_range.mp hj
    simp [upN, Nat.ne_of_lt this]
  · simp [upN, arrI]
theorem lrw_mk {k w : Nat → Nat} {i : Nat} : ∀ j, j < 2 → upd (upd (fun _ => 0) 0 (nI (k i))) 1 (nI (w i)) j = lrwF k w i j := by
  intro j hj
  match j, hj with
  | 0, _ => rfl
  | 1, _ => rfl
theorem wLr_snoc {Z : GZ} {m a : Nat} {lr k w : Nat → Nat} : wLr Z (m + 1) (upN lr m a) k w = wLr Z m lr k w ++ arrI Z a 2 (lrwF k w m) := by
  rw [wLr, List.range_succ, List.map_append, wLr]
  congr 1
  · apply List.map_congr_left
    intro j hj
    have := List.mem_range.mp hj
    simp [upN, Nat.ne_of_lt this]
  · simp [upN, arrI]
theorem up_old {rw : Nat → Nat} {n a : Nat} : ∀ j, j < n → some (rw j) = some (upN rw n a j) := fun j hj => by simp [upN, Nat.ne_of_lt hj]
theorem up_new {rw : Nat → Nat} {n a : Nat} : upN rw n a n = a := by simp [upN]
/-- a row's cell -/
def RowIn (Z : GZ) (M : va_W) (a : Nat) : Prop := ∃ (i N : Nat) (f : Nat → Int32), M[i]? = some (a, .inl (zA Z 0, N, .inl f))
theorem RowIn.rw {Z : GZ} {n a : Nat} {rw p h f t : Nat → Nat} {g : Nat → Int32} {N : Nat} : ∀ j, j ≤ n → RowIn Z (arrI Z a N g ++ wRw Z n rw p h f t) (upN rw n a j) := by
  intro j hj
  by_cases e : j = n
  · subst e
    rw [up_new]
    exact ⟨0, N, g, rfl⟩
  · refine ⟨j + 1, 4, rowF p h f t j, ?_⟩
    show (wRw Z n rw p h f t)[j]? = _
    rw [wRw_at (by omega)]
    simp [upN, e]
theorem wLr_len {Z : GZ} {n : Nat} {rw k w : Nat → Nat} : (wLr Z n rw k w).length = n := by simp [wLr]
theorem RowIn.lr {Z : GZ} {n a : Nat} {rw k w : Nat → Nat} {g : Nat → Int32} {N : Nat} : ∀ j, j ≤ n → RowIn Z (arrI Z a N g ++ wLr Z n rw k w) (upN rw n a j) := by
  intro j hj
  by_cases e : j = n
  · subst e
    rw [up_new]
    exact ⟨0, N, g, rfl⟩
  · refine ⟨j + 1, 2, lrwF k w j, ?_⟩
    show (wLr Z n rw k w)[j]? = _
    rw [wLr_at (by omega)]
    simp [upN, e]
theorem rf_up {f : Nat → Option Nat} {k a : Nat} : va_rf (va_up f k (some a) k) = .ref a := by simp [va_up, va_rf]
theorem rf_no {f : Nat → Option Nat} {k : Nat} : va_rf (va_up f k none k) = .null := by simp [va_up, va_rf]
theorem stand_up {S : List Nat} {p : Nat} : upd (fun j => if j ∈ S then (1 : Int32) else 0) p 1 = fun j => if j ∈ S ++ [p] then (1 : Int32) else 0 := by
  funext j
  simp only [upd]
  by_cases e : j = p
  · subst e; simp
  · by_cases e2 : j ∈ S <;> simp [e, e2]
theorem df_X9 : ∀ j, j < 7 → defaultValue (tyX9 j) = vp_V [.null, .null, .null, .null, .null, .int 0, .int 0] j := by
  intro j hj
  match j, hj with
  | 0, _ => rfl
  | 1, _ => rfl
  | 2, _ => rfl
  | 3, _ => rfl
  | 4, _ => rfl
  | 5, _ => rfl
  | 6, _ => rfl
def wSm (_ : GZ) (s : Nat) (vh vl vo vt ve : Value) (dy ca : Int32) : va_W := [(s, .inr (8, [vh, vl, vo, vt, ve, .int dy, .int ca]))]
/-- the houses' lines -/
def hsT (Z : GZ) : Nat → List Nat
  | 0 => []
  | k + 1 => ((((((hsT Z k ++ cTx 0) ++ dTx k) ++ cTx 1) ++ dTx (toP Z k)) ++ cTx 2) ++ dTx (toH Z k)) ++ cTx 3
def whT (Z : GZ) (k : Nat) : List Nat := if hasT Z k = true then (([] : List Nat) ++ cTx 11) ++ txN (toN Z) 4 (tesQ Z k) else cTx 10
/-- a law's line, without its test -/
def lcT (Z : GZ) (k : Nat) (T : List Nat) : List Nat :=
  if toK Z k = 0 then ((((T ++ cTx 4) ++ dTx (toV Z k)) ++ cTx 7) ++ txN (toN Z) 2 (oneQ Z k)) ++ cTx 9 ++ txN (toN Z) 2 (twoQ Z k)
  else if toK Z k = 1 then (T ++ cTx 5) ++ dTx (toV Z k)
  else (((T ++ cTx 6) ++ dTx (toV Z k)) ++ cTx 8) ++ txN (toN Z) 2 (oneQ Z k)
def lwT (Z : GZ) : Nat → List Nat
  | 0 => hsT Z (toN Z)
  | k + 1 => (lcT Z k (lwT Z k) ++ whT Z k) ++ cTx 12
/-- trees of the laws below k lie in the pool -/
def TrOk (Z : GZ) (k : Nat) (L : List TC) (fo ft fe : Nat → Option Nat) : Prop := ∀ j, j < k → (∃ a, fo j = some a ∧ InT (toN Z) L 2 a (oneQ Z j)) ∧ (∃ a, ft j = some a ∧ InT (toN Z) L 2 a (twoQ Z j)) ∧ (if hasT Z j = true then ∃ a, fe j = some a ∧ InT (toN Z) L 4 a (tesQ Z j) else fe j = none)
theorem TrOk.step {Z : GZ} {k : Nat} {L L1 L2 L3 : List TC} {fo ft fe fo' ft' fe' : Nat → Option Nat} {a b : Nat} (h : TrOk Z k L fo ft fe) (h1 : ∀ j, fo' j = if j = k then some a else fo j) (h2 : ∀ j, ft' j = if j = k then some b else ft j) (h3 : ∀ j, ¬ j = k → fe' j = fe j) (ha : InT (toN Z) L1 2 a (oneQ Z k)) (hb : InT (toN Z) L2 2 b (twoQ Z k)) (he : if hasT Z k = true then ∃ a, fe' k = some a ∧ InT (toN Z) L3 4 a (tesQ Z k) else fe' k = none) : TrOk Z (k + 1) (((L ++ L1) ++ L2) ++ L3) fo' ft' fe' := by
  intro j hj
  by_cases e : j = k
  · subst e
    refine ⟨⟨a, by rw [h1, if_pos rfl], InT.mono (fun c hc => by simp [hc]) ha⟩, ⟨b, by rw [h2, if_pos rfl], InT.mono (fun c hc => by simp [hc]) hb⟩, ?_⟩
    split
    · rename_i ht
      rw [if_pos ht] at he
      obtain ⟨x, e1, e2⟩ := he
      exact ⟨x, e1, InT.mono (fun c hc => by simp [hc]) e2⟩
    · rename_i ht
      rw [if_neg ht] at he
      exact he
  · obtain ⟨⟨x, x1, x2⟩, ⟨y, y1, y2⟩, q⟩ := h j (by omega)
    refine ⟨⟨x, by rw [h1, if_neg e]; exact x1, InT.mono (fun c hc => by simp [hc]) x2⟩, ⟨y, by rw [h2, if_neg e]; exact y1, InT.mono (fun c hc => by simp [hc]) y2⟩, ?_⟩
    rw [h3 j e]
    split
    · rename_i ht
      rw [if_pos ht] at q
      obtain ⟨x, e1, e2⟩ := q
      exact ⟨x, e1, InT.mono (fun c hc => by simp [hc]) e2⟩
    · rename_i ht
      rw [if_neg ht] at q
      exact q
theorem J_forR {Z : GZ} {X : CX} {R : Room} {nL : Nat} {Q : State → Prop} {pc : Nat} {σ : Type} (rcf rsf : Nat → Nat) (lvf : Nat → σ → List (Nat × Value)) (wsf : Nat → σ → va_W) (I : Nat → σ → Prop) (N k0 : Nat) (s0 : σ) (hk : k0 ≤ N) (h0 : I k0 s0) (hx : ∀ s, I N s → Jd Z X R nL Q (rcf N) (rsf N) pc (lvf N s) [] (wsf N s))
    (hs : ∀ k s, k0 ≤ k → k < N → I k s → (∀ s2, I (k + 1) s2 → Jd Z X R nL Q (rcf (k + 1)) (rsf (k + 1)) pc (lvf (k + 1) s2) [] (wsf (k + 1) s2)) → Jd Z X R nL Q (rcf k) (rsf k) pc (lvf k s) [] (wsf k s)) : Jd Z X R nL Q (rcf k0) (rsf k0) pc (lvf k0 s0) [] (wsf k0 s0) := by
  have h : ∀ j k s, k + j = N → k0 ≤ k → I k s → Jd Z X R nL Q (rcf k) (rsf k) pc (lvf k s) [] (wsf k s) := by
    intro j
    induction j with
    | zero =>
      intro k s h1 h2 h3
      have e : k = N := by omega
      subst e
      exact hx s h3
    | succ j ih => exact fun k s h1 h2 h3 => hs k s h2 (by omega) h3 (fun s2 h4 => ih (k + 1) s2 (by omega) (by omega) h4)
  exact h (N - k0) k0 s0 (by omega) (Nat.le_refl _) h0
theorem lrw_0 {k w : Nat → Nat} {i : Nat} : lrwF k w i 0 = nI (k i) := rfl
theorem lrw_1 {k w : Nat → Nat} {i : Nat} : lrwF k w i 1 = nI (w i) := rfl
theorem J_ifnonnullN {Z : GZ} {X : CX} {R : Room} {nL : Nat} {Q : State → Prop} {rc rs pc nx : Nat} {lv : List (Nat × Value)} {st : List Value} {ws : va_W} {cc : ByteArray} {own : String} {off : Int} (C : Cx Z X cc nL own) (d : dI cc pc (.ifnonnull off) 3 nx) (k : Jd Z X R nL Q rc rs nx lv (st) ws) : Jd Z X R nL Q rc rs pc lv (.null :: st) ws := by
  obtain ⟨d, rfl⟩ := d
  intro ls H locs cells slots hc hs hl hP hD hS
  exact lv_ifnonnullN C.1 C.2.1 d (k ls H locs cells slots hc hs hl hP hD hS)

theorem cx_0 : (cTx 0).length = 7 := by decide +kernel
theorem cx_1 : (cTx 1).length = 4 := by decide +kernel
theorem cx_2 : (cTx 2).length = 6 := by decide +kernel
theorem cx_3 : (cTx 3).length = 2 := by decide +kernel
theorem cx_4 : (cTx 4).length = 12 := by decide +kernel
theorem cx_5 : (cTx 5).length = 10 := by decide +kernel
theorem cx_6 : (cTx 6).length = 11 := by decide +kernel
theorem cx_7 : (cTx 7).length = 6 := by decide +kernel
theorem cx_8 : (cTx 8).length = 4 := by decide +kernel
theorem cx_9 : (cTx 9).length = 4 := by decide +kernel
theorem cx_10 : (cTx 10).length = 0 := by decide +kernel
theorem cx_11 : (cTx 11).length = 6 := by decide +kernel
theorem cx_12 : (cTx 12).length = 1 := by decide +kernel
theorem cx_13 : (cTx 13).length = 0 := by decide +kernel
theorem cx_14 : (cTx 14).length = 4 := by decide +kernel
theorem cx_15 : (cTx 15).length = 6 := by decide +kernel
theorem cx_16 : (cTx 16).length = 9 := by decide +kernel
theorem cx_17 : (cTx 17).length = 9 := by decide +kernel
theorem cx_18 : (cTx 18).length = 11 := by decide +kernel
theorem cx_19 : (cTx 19).length = 1 := by decide +kernel
theorem cx_20 : (cTx 20).length = 1 := by decide +kernel
theorem cx_21 : (cTx 21).length = 1 := by decide +kernel
theorem cx_22 : (cTx 22).length = 1 := by decide +kernel
theorem cx_23 : (cTx 23).length = 4 := by decide +kernel
theorem cx_24 : (cTx 24).length = 4 := by decide +kernel
theorem cx_25 : (cTx 25).length = 1 := by decide +kernel
theorem cx_26 : (cTx 26).length = 1 := by decide +kernel
theorem cx_27 : (cTx 27).length = 1 := by decide +kernel
theorem cx_28 : (cTx 28).length = 2 := by decide +kernel
theorem cx_29 : (cTx 29).length = 2 := by decide +kernel
theorem cx_30 : (cTx 30).length = 1 := by decide +kernel
theorem cx_31 : (cTx 31).length = 3 := by decide +kernel
theorem cx_32 : (cTx 32).length = 1 := by decide +kernel
theorem cx_33 : (cTx 33).length = 1 := by decide +kernel
theorem cx_34 : (cTx 34).length = 1 := by decide +kernel
theorem cx_35 : (cTx 35).length = 8 := by decide +kernel
theorem cx_36 : (cTx 36).length = 2 := by decide +kernel
theorem cx_37 : (cTx 37).length = 6 := by decide +kernel
theorem cx_38 : (cTx 38).length = 4 := by decide +kernel
theorem cx_39 : (cTx 39).length = 1 := by decide +kernel
theorem cx_40 : (cTx 40).length = 1 := by decide +kernel
theorem cx_41 : (cTx 41).length = 3 := by decide +kernel
theorem cx_42 : (cTx 42).length = 2 := by decide +kernel
theorem dg_1 {v : Nat} (h : v < 10) : sb_dg v = 1 := by
  unfold sb_dg
  (repeat' split) <;> omega
theorem dg_2 {v : Nat} (h : v < 100) : sb_dg v ≤ 2 := by
  unfold sb_dg
  (repeat' split) <;> omega
theorem dg_6 {v : Nat} (h : v < 1000000) : sb_dg v ≤ 6 := by
  unfold sb_dg
  (repeat' split) <;> omega
theorem tx1_len {n : Nat} (hn : 0 < n) (hn2 : n ≤ 12) {q : TN} {A B : List Nat} {a : Nat} (hA : hasA (kN q) = true → A.length ≤ a) (hB : hasC (kN q) = true → B.length ≤ a) : (kN q ≤ 5 → (tx1 n q A B).length ≤ 14) ∧ (tx1 n q A B).length ≤ 2 * a + 15 := by
  have hkin := kN_in q
  have hd6 := dg_6 (nm_big hn hn2 q)
  have hd : ¬ kN q = 0 → sb_dg (nuQ n q) ≤ 2 := fun h => dg_2 (by have := nm_lt hn h; omega)
  have ho : sb_dg (otN n q) ≤ 2 := dg_2 (by have := ot_lt hn q; omega)
  have hks : kN q = 0 ∨ kN q = 1 ∨ kN q = 2 ∨ kN q = 3 ∨ kN q = 4 ∨ kN q = 5 ∨ kN q = 6 ∨ kN q = 7 ∨ kN q = 8 ∨ kN q = 9 ∨ kN q = 10 ∨ kN q = 11 ∨ kN q = 12 ∨ kN q = 20 ∨ kN q = 21 ∨ kN q = 22 ∨ kN q = 23 ∨ kN q = 24 ∨ kN q = 25 ∨ kN q = 26 ∨ kN q = 29 ∨ kN q = 30 ∨ kN q = 31 := by omega
  rcases hks with hk | hk | hk | hk | hk | hk | hk | hk | hk | hk | hk | hk | hk | hk | hk | hk | hk | hk | hk | hk | hk | hk | hk
  · rw [tx1, if_pos hk]
    simp only [List.length_append, List.length_nil, cx_0, cx_1, cx_2, cx_3, cx_4, cx_5, cx_6, cx_7, cx_8, cx_9, cx_10, cx_11, cx_12, cx_13, cx_14, cx_15, cx_16, cx_17, cx_18, cx_19, cx_20, cx_21, cx_22, cx_23, cx_24, cx_25, cx_26, cx_27, cx_28, cx_29, cx_30, cx_31, cx_32, cx_33, cx_34, cx_35, cx_36, cx_37, cx_38, cx_39, cx_40, cx_41, cx_42, dTx_len]
    omega
  · have h3 := hd (by omega)
    rw [tx1, if_neg (by omega), if_pos hk]
    simp only [List.length_append, List.length_nil, cx_0, cx_1, cx_2, cx_3, cx_4, cx_5, cx_6, cx_7, cx_8, cx_9, cx_10, cx_11, cx_12, cx_13, cx_14, cx_15, cx_16, cx_17, cx_18, cx_19, cx_20, cx_21, cx_22, cx_23, cx_24, cx_25, cx_26, cx_27, cx_28, cx_29, cx_30, cx_31, cx_32, cx_33, cx_34, cx_35, cx_36, cx_37, cx_38, cx_39, cx_40, cx_41, cx_42, dTx_len]
    omega
  · have h3 := hd (by omega)
    rw [tx1, if_neg (by omega), if_neg (by omega), if_pos hk]
    simp only [List.length_append, List.length_nil, cx_0, cx_1, cx_2, cx_3, cx_4, cx_5, cx_6, cx_7, cx_8, cx_9, cx_10, cx_11, cx_12, cx_13, cx_14, cx_15, cx_16, cx_17, cx_18, cx_19, cx_20, cx_21, cx_22, cx_23, cx_24, cx_25, cx_26, cx_27, cx_28, cx_29, cx_30, cx_31, cx_32, cx_33, cx_34, cx_35, cx_36, cx_37, cx_38, cx_39, cx_40, cx_41, cx_42, dTx_len]
    omega
  · have h3 := hd (by omega)
    rw [tx1, if_neg (by omega), if_neg (by omega), if_neg (by omega), if_pos hk]
    simp only [List.length_append, List.length_nil, cx_0, cx_1, cx_2, cx_3, cx_4, cx_5, cx_6, cx_7, cx_8, cx_9, cx_10, cx_11, cx_12, cx_13, cx_14, cx_15, cx_16, cx_17, cx_18, cx_19, cx_20, cx_21, cx_22, cx_23, cx_24, cx_25, cx_26, cx_27, cx_28, cx_29, cx_30, cx_31, cx_32, cx_33, cx_34, cx_35, cx_36, cx_37, cx_38, cx_39, cx_40, cx_41, cx_42, dTx_len]
    omega
  · have h3 := hd (by omega)
    rw [tx1, if_neg (by omega), if_neg (by omega), if_neg (by omega), if_neg (by omega), if_pos hk]
    simp only [List.length_append, List.length_nil, cx_0, cx_1, cx_2, cx_3, cx_4, cx_5, cx_6, cx_7, cx_8, cx_9, cx_10, cx_11, cx_12, cx_13, cx_14, cx_15, cx_16, cx_17, cx_18, cx_19, cx_20, cx_21, cx_22, cx_23, cx_24, cx_25, cx_26, cx_27, cx_28, cx_29, cx_30, cx_31, cx_32, cx_33, cx_34, cx_35, cx_36, cx_37, cx_38, cx_39, cx_40, cx_41, cx_42, dTx_len]
    omega
  · have h3 := hd (by omega)
    rw [tx1, if_neg (by omega), if_neg (by omega), if_neg (by omega), if_neg (by omega), if_neg (by omega), if_pos hk]
    simp only [List.length_append, List.length_nil, cx_0, cx_1, cx_2, cx_3, cx_4, cx_5, cx_6, cx_7, cx_8, cx_9, cx_10, cx_11, cx_12, cx_13, cx_14, cx_15, cx_16, cx_17, cx_18, cx_19, cx_20, cx_21, cx_22, cx_23, cx_24, cx_25, cx_26, cx_27, cx_28, cx_29, cx_30, cx_31, cx_32, cx_33, cx_34, cx_35, cx_36, cx_37, cx_38, cx_39, cx_40, cx_41, cx_42, dTx_len]
    omega
  · have h1 := hA (by rw [hk]; decide)
    have h3 := hd (by omega)
    rw [tx1, if_neg (by omega), if_neg (by omega), if_neg (by omega), if_neg (by omega), if_neg (by omega), if_neg (by omega), if_pos hk]
    simp only [List.length_append, List.length_nil, cx_0, cx_1, cx_2, cx_3, cx_4, cx_5, cx_6, cx_7, cx_8, cx_9, cx_10, cx_11, cx_12, cx_13, cx_14, cx_15, cx_16, cx_17, cx_18, cx_19, cx_20, cx_21, cx_22, cx_23, cx_24, cx_25, cx_26, cx_27, cx_28, cx_29, cx_30, cx_31, cx_32, cx_33, cx_34, cx_35, cx_36, cx_37, cx_38, cx_39, cx_40, cx_41, cx_42, dTx_len]
    omega
  · have h1 := hA (by rw [hk]; decide)
    have h2 := hB (by rw [hk]; decide)
    have h3 := hd (by omega)
    rw [tx1, if_neg (by omega), if_neg (by omega), if_neg (by omega), if_neg (by omega), if_neg (by omega), if_neg (by omega), if_neg (by omega), if_pos hk]
    simp only [List.length_append, List.length_nil, cx_0, cx_1, cx_2, cx_3, cx_4, cx_5, cx_6, cx_7, cx_8, cx_9, cx_10, cx_11, cx_12, cx_13, cx_14, cx_15, cx_16, cx_17, cx_18, cx_19, cx_20, cx_21, cx_22, cx_23, cx_24, cx_25, cx_26, cx_27, cx_28, cx_29, cx_30, cx_31, cx_32, cx_33, cx_34, cx_35, cx_36, cx_37, cx_38, cx_39, cx_40, cx_41, cx_42, dTx_len]
    omega
  · have h1 := hA (by rw [hk]; decide)
    have h2 := hB (by rw [hk]; decide)
    have h3 := hd (by omega)
    rw [tx1, if_neg (by omega), if_neg (by omega), if_neg (by omega), if_neg (by omega), if_neg (by omega), if_neg (by omega), if_neg (by omega), if_neg (by omega), if_pos hk]
    simp only [List.length_append, List.length_nil, cx_0, cx_1, cx_2, cx_3, cx_4, cx_5, cx_6, cx_7, cx_8, cx_9, cx_10, cx_11, cx_12, cx_13, cx_14, cx_15, cx_16, cx_17, cx_18, cx_19, cx_20, cx_21, cx_22, cx_23, cx_24, cx_25, cx_26, cx_27, cx_28, cx_29, cx_30, cx_31, cx_32, cx_33, cx_34, cx_35, cx_36, cx_37, cx_38, cx_39, cx_40, cx_41, cx_42, dTx_len]
    omega
  · have h1 := hA (by rw [hk]; decide)
    have h2 := hB (by rw [hk]; decide)
    have h3 := hd (by omega)
    rw [tx1, if_neg (by omega), if_neg (by omega), if_neg (by omega), if_neg (by omega), if_neg (by omega), if_neg (by omega), if_neg (by omega), if_neg (by omega), if_neg (by omega), if_pos hk]
    simp only [List.length_append, List.length_nil, cx_0, cx_1, cx_2, cx_3, cx_4, cx_5, cx_6, cx_7, cx_8, cx_9, cx_10, cx_11, cx_12, cx_13, cx_14, cx_15, cx_16, cx_17, cx_18, cx_19, cx_20, cx_21, cx_22, cx_23, cx_24, cx_25, cx_26, cx_27, cx_28, cx_29, cx_30, cx_31, cx_32, cx_33, cx_34, cx_35, cx_36, cx_37, cx_38, cx_39, cx_40, cx_41, cx_42, dTx_len]
    omega
  · have h1 := hA (by rw [hk]; decide)
    have h2 := hB (by rw [hk]; decide)
    have h3 := hd (by omega)
    rw [tx1, if_neg (by omega), if_neg (by omega), if_neg (by omega), if_neg (by omega), if_neg (by omega), if_neg (by omega), if_neg (by omega), if_neg (by omega), if_neg (by omega), if_neg (by omega), if_pos hk]
    simp only [List.length_append, List.length_nil, cx_0, cx_1, cx_2, cx_3, cx_4, cx_5, cx_6, cx_7, cx_8, cx_9, cx_10, cx_11, cx_12, cx_13, cx_14, cx_15, cx_16, cx_17, cx_18, cx_19, cx_20, cx_21, cx_22, cx_23, cx_24, cx_25, cx_26, cx_27, cx_28, cx_29, cx_30, cx_31, cx_32, cx_33, cx_34, cx_35, cx_36, cx_37, cx_38, cx_39, cx_40, cx_41, cx_42, dTx_len]
    omega
  · have h1 := hA (by rw [hk]; decide)
    have h2 := hB (by rw [hk]; decide)
    have h3 := hd (by omega)
    rw [tx1, if_neg (by omega), if_neg (by omega), if_neg (by omega), if_neg (by omega), if_neg (by omega), if_neg (by omega), if_neg (by omega), if_neg (by omega), if_neg (by omega), if_neg (by omega), if_neg (by omega), if_pos hk]
    simp only [List.length_append, List.length_nil, cx_0, cx_1, cx_2, cx_3, cx_4, cx_5, cx_6, cx_7, cx_8, cx_9, cx_10, cx_11, cx_12, cx_13, cx_14, cx_15, cx_16, cx_17, cx_18, cx_19, cx_20, cx_21, cx_22, cx_23, cx_24, cx_25, cx_26, cx_27, cx_28, cx_29, cx_30, cx_31, cx_32, cx_33, cx_34, cx_35, cx_36, cx_37, cx_38, cx_39, cx_40, cx_41, cx_42, dTx_len]
    omega
  · have h1 := hA (by rw [hk]; decide)
    have h2 := hB (by rw [hk]; decide)
    have h3 := hd (by omega)
    rw [tx1, if_neg (by omega), if_neg (by omega), if_neg (by omega), if_neg (by omega), if_neg (by omega), if_neg (by omega), if_neg (by omega), if_neg (by omega), if_neg (by omega), if_neg (by omega), if_neg (by omega), if_neg (by omega), if_pos hk]
    simp only [List.length_append, List.length_nil, cx_0, cx_1, cx_2, cx_3, cx_4, cx_5, cx_6, cx_7, cx_8, cx_9, cx_10, cx_11, cx_12, cx_13, cx_14, cx_15, cx_16, cx_17, cx_18, cx_19, cx_20, cx_21, cx_22, cx_23, cx_24, cx_25, cx_26, cx_27, cx_28, cx_29, cx_30, cx_31, cx_32, cx_33, cx_34, cx_35, cx_36, cx_37, cx_38, cx_39, cx_40, cx_41, cx_42, dTx_len]
    omega
  · have h1 := hA (by rw [hk]; decide)
    have h2 := hB (by rw [hk]; decide)
    have h3 := hd (by omega)
    rw [tx1, if_neg (by omega), if_neg (by omega), if_neg (by omega), if_neg (by omega), if_neg (by omega), if_neg (by omega), if_neg (by omega), if_neg (by omega), if_neg (by omega), if_neg (by omega), if_neg (by omega), if_neg (by omega), if_neg (by omega), if_pos hk]
    simp only [List.length_append, List.length_nil, cx_0, cx_1, cx_2, cx_3, cx_4, cx_5, cx_6, cx_7, cx_8, cx_9, cx_10, cx_11, cx_12, cx_13, cx_14, cx_15, cx_16, cx_17, cx_18, cx_19, cx_20, cx_21, cx_22, cx_23, cx_24, cx_25, cx_26, cx_27, cx_28, cx_29, cx_30, cx_31, cx_32, cx_33, cx_34, cx_35, cx_36, cx_37, cx_38, cx_39, cx_40, cx_41, cx_42, dTx_len]
    omega
  · have h1 := hA (by rw [hk]; decide)
    have h2 := hB (by rw [hk]; decide)
    have h3 := hd (by omega)
    rw [tx1, if_neg (by omega), if_neg (by omega), if_neg (by omega), if_neg (by omega), if_neg (by omega), if_neg (by omega), if_neg (by omega), if_neg (by omega), if_neg (by omega), if_neg (by omega), if_neg (by omega), if_neg (by omega), if_neg (by omega), if_neg (by omega), if_pos hk]
    simp only [List.length_append, List.length_nil, cx_0, cx_1, cx_2, cx_3, cx_4, cx_5, cx_6, cx_7, cx_8, cx_9, cx_10, cx_11, cx_12, cx_13, cx_14, cx_15, cx_16, cx_17, cx_18, cx_19, cx_20, cx_21, cx_22, cx_23, cx_24, cx_25, cx_26, cx_27, cx_28, cx_29, cx_30, cx_31, cx_32, cx_33, cx_34, cx_35, cx_36, cx_37, cx_38, cx_39, cx_40, cx_41, cx_42, dTx_len]
    omega
  · have h1 := hA (by rw [hk]; decide)
    have h2 := hB (by rw [hk]; decide)
    have h3 := hd (by omega)
    rw [tx1, if_neg (by omega), if_neg (by omega), if_neg (by omega), if_neg (by omega), if_neg (by omega), if_neg (by omega), if_neg (by omega), if_neg (by omega), if_neg (by omega), if_neg (by omega), if_neg (by omega), if_neg (by omega), if_neg (by omega), if_neg (by omega), if_neg (by omega), if_pos hk]
    simp only [List.length_append, List.length_nil, cx_0, cx_1, cx_2, cx_3, cx_4, cx_5, cx_6, cx_7, cx_8, cx_9, cx_10, cx_11, cx_12, cx_13, cx_14, cx_15, cx_16, cx_17, cx_18, cx_19, cx_20, cx_21, cx_22, cx_23, cx_24, cx_25, cx_26, cx_27, cx_28, cx_29, cx_30, cx_31, cx_32, cx_33, cx_34, cx_35, cx_36, cx_37, cx_38, cx_39, cx_40, cx_41, cx_42, dTx_len]
    omega
  · have h1 := hA (by rw [hk]; decide)
    have h2 := hB (by rw [hk]; decide)
    have h3 := hd (by omega)
    rw [tx1, if_neg (by omega), if_neg (by omega), if_neg (by omega), if_neg (by omega), if_neg (by omega), if_neg (by omega), if_neg (by omega), if_neg (by omega), if_neg (by omega), if_neg (by omega), if_neg (by omega), if_neg (by omega), if_neg (by omega), if_neg (by omega), if_neg (by omega), if_neg (by omega), if_pos hk]
    simp only [List.length_append, List.length_nil, cx_0, cx_1, cx_2, cx_3, cx_4, cx_5, cx_6, cx_7, cx_8, cx_9, cx_10, cx_11, cx_12, cx_13, cx_14, cx_15, cx_16, cx_17, cx_18, cx_19, cx_20, cx_21, cx_22, cx_23, cx_24, cx_25, cx_26, cx_27, cx_28, cx_29, cx_30, cx_31, cx_32, cx_33, cx_34, cx_35, cx_36, cx_37, cx_38, cx_39, cx_40, cx_41, cx_42, dTx_len]
    omega
  · have h1 := hA (by rw [hk]; decide)
    have h2 := hB (by rw [hk]; decide)
    have h3 := hd (by omega)
    rw [tx1, if_neg (by omega), if_neg (by omega), if_neg (by omega), if_neg (by omega), if_neg (by omega), if_neg (by omega), if_neg (by omega), if_neg (by omega), if_neg (by omega), if_neg (by omega), if_neg (by omega), if_neg (by omega), if_neg (by omega), if_neg (by omega), if_neg (by omega), if_neg (by omega), if_neg (by omega), if_pos hk]
    simp only [List.length_append, List.length_nil, cx_0, cx_1, cx_2, cx_3, cx_4, cx_5, cx_6, cx_7, cx_8, cx_9, cx_10, cx_11, cx_12, cx_13, cx_14, cx_15, cx_16, cx_17, cx_18, cx_19, cx_20, cx_21, cx_22, cx_23, cx_24, cx_25, cx_26, cx_27, cx_28, cx_29, cx_30, cx_31, cx_32, cx_33, cx_34, cx_35, cx_36, cx_37, cx_38, cx_39, cx_40, cx_41, cx_42, dTx_len]
    omega
  · have h3 := hd (by omega)
    rw [tx1, if_neg (by omega), if_neg (by omega), if_neg (by omega), if_neg (by omega), if_neg (by omega), if_neg (by omega), if_neg (by omega), if_neg (by omega), if_neg (by omega), if_neg (by omega), if_neg (by omega), if_neg (by omega), if_neg (by omega), if_neg (by omega), if_neg (by omega), if_neg (by omega), if_neg (by omega), if_neg (by omega), if_pos hk]
    simp only [List.length_append, List.length_nil, cx_0, cx_1, cx_2, cx_3, cx_4, cx_5, cx_6, cx_7, cx_8, cx_9, cx_10, cx_11, cx_12, cx_13, cx_14, cx_15, cx_16, cx_17, cx_18, cx_19, cx_20, cx_21, cx_22, cx_23, cx_24, cx_25, cx_26, cx_27, cx_28, cx_29, cx_30, cx_31, cx_32, cx_33, cx_34, cx_35, cx_36, cx_37, cx_38, cx_39, cx_40, cx_41, cx_42, dTx_len]
    omega
  · have h3 := hd (by omega)
    rw [tx1, if_neg (by omega), if_neg (by omega), if_neg (by omega), if_neg (by omega), if_neg (by omega), if_neg (by omega), if_neg (by omega), if_neg (by omega), if_neg (by omega), if_neg (by omega), if_neg (by omega), if_neg (by omega), if_neg (by omega), if_neg (by omega), if_neg (by omega), if_neg (by omega), if_neg (by omega), if_neg (by omega), if_neg (by omega), if_pos hk]
    simp only [List.length_append, List.length_nil, cx_0, cx_1, cx_2, cx_3, cx_4, cx_5, cx_6, cx_7, cx_8, cx_9, cx_10, cx_11, cx_12, cx_13, cx_14, cx_15, cx_16, cx_17, cx_18, cx_19, cx_20, cx_21, cx_22, cx_23, cx_24, cx_25, cx_26, cx_27, cx_28, cx_29, cx_30, cx_31, cx_32, cx_33, cx_34, cx_35, cx_36, cx_37, cx_38, cx_39, cx_40, cx_41, cx_42, dTx_len]
    omega
  · have h1 := hA (by rw [hk]; decide)
    have h3 := hd (by omega)
    rw [tx1, if_neg (by omega), if_neg (by omega), if_neg (by omega), if_neg (by omega), if_neg (by omega), if_neg (by omega), if_neg (by omega), if_neg (by omega), if_neg (by omega), if_neg (by omega), if_neg (by omega), if_neg (by omega), if_neg (by omega), if_neg (by omega), if_neg (by omega), if_neg (by omega), if_neg (by omega), if_neg (by omega), if_neg (by omega), if_neg (by omega), if_pos hk]
    simp only [List.length_append, List.length_nil, cx_0, cx_1, cx_2, cx_3, cx_4, cx_5, cx_6, cx_7, cx_8, cx_9, cx_10, cx_11, cx_12, cx_13, cx_14, cx_15, cx_16, cx_17, cx_18, cx_19, cx_20, cx_21, cx_22, cx_23, cx_24, cx_25, cx_26, cx_27, cx_28, cx_29, cx_30, cx_31, cx_32, cx_33, cx_34, cx_35, cx_36, cx_37, cx_38, cx_39, cx_40, cx_41, cx_42, dTx_len]
    omega
  · have h1 := hA (by rw [hk]; decide)
    have h2 := hB (by rw [hk]; decide)
    have h3 := hd (by omega)
    rw [tx1, if_neg (by omega), if_neg (by omega), if_neg (by omega), if_neg (by omega), if_neg (by omega), if_neg (by omega), if_neg (by omega), if_neg (by omega), if_neg (by omega), if_neg (by omega), if_neg (by omega), if_neg (by omega), if_neg (by omega), if_neg (by omega), if_neg (by omega), if_neg (by omega), if_neg (by omega), if_neg (by omega), if_neg (by omega), if_neg (by omega), if_neg (by omega), if_pos hk]
    simp only [List.length_append, List.length_nil, cx_0, cx_1, cx_2, cx_3, cx_4, cx_5, cx_6, cx_7, cx_8, cx_9, cx_10, cx_11, cx_12, cx_13, cx_14, cx_15, cx_16, cx_17, cx_18, cx_19, cx_20, cx_21, cx_22, cx_23, cx_24, cx_25, cx_26, cx_27, cx_28, cx_29, cx_30, cx_31, cx_32, cx_33, cx_34, cx_35, cx_36, cx_37, cx_38, cx_39, cx_40, cx_41, cx_42, dTx_len]
    omega
  · have h1 := hA (by rw [hk]; decide)
    have h2 := hB (by rw [hk]; decide)
    have h3 := hd (by omega)
    rw [tx1, if_neg (by omega), if_neg (by omega), if_neg (by omega), if_neg (by omega), if_neg (by omega), if_neg (by omega), if_neg (by omega), if_neg (by omega), if_neg (by omega), if_neg (by omega), if_neg (by omega), if_neg (by omega), if_neg (by omega), if_neg (by omega), if_neg (by omega), if_neg (by omega), if_neg (by omega), if_neg (by omega), if_neg (by omega), if_neg (by omega), if_neg (by omega), if_neg (by omega)]
    simp only [List.length_append, List.length_nil, cx_0, cx_1, cx_2, cx_3, cx_4, cx_5, cx_6, cx_7, cx_8, cx_9, cx_10, cx_11, cx_12, cx_13, cx_14, cx_15, cx_16, cx_17, cx_18, cx_19, cx_20, cx_21, cx_22, cx_23, cx_24, cx_25, cx_26, cx_27, cx_28, cx_29, cx_30, cx_31, cx_32, cx_33, cx_34, cx_35, cx_36, cx_37, cx_38, cx_39, cx_40, cx_41, cx_42, dTx_len]
    omega
theorem len_s2 {n : Nat} (hn : 0 < n) (hn2 : n ≤ 12) (u : Nat) {x : Int32} {d : Nat} (hd : 1 < d) : (txN n u (false, x, d)).length ≤ 14 := by
  cases u with
  | zero => exact Nat.zero_le _
  | succ u =>
    have hk := kS_deep (x := x) hd
    have e : kN (false, x, d) = kS x d := rfl
    rw [txN]
    refine (tx1_len (a := 0) hn hn2 (fun h => absurd h (hasA_no ?_)) (fun h => absurd h (hasC_no ?_))).1 ?_
    all_goals omega
theorem len_s1 {n : Nat} (hn : 0 < n) (hn2 : n ≤ 12) (u : Nat) {x : Int32} {d : Nat} (hd : 0 < d) : (txN n u (false, x, d)).length ≤ 43 := by
  cases u with
  | zero => exact Nat.zero_le _
  | succ u =>
    rw [txN]
    exact (tx1_len (a := 14) hn hn2 (fun _ => len_s2 hn hn2 u (show 1 < d + 1 by omega)) (fun _ => len_s2 hn hn2 u (show 1 < d + 1 by omega))).2
theorem kdA_lt {x : Int32} {d : Nat} (h : kT x d < 25) : kdA (true, x, d) = (false, x * 3 + 7, d + 1) := by rw [kdA, if_pos rfl, if_pos h]
theorem kdA_ge {x : Int32} {d : Nat} (h : ¬ kT x d < 25) : kdA (true, x, d) = (true, x * 3 + 5, d + 1) := by rw [kdA, if_pos rfl, if_neg h]
theorem kdB_lt {x : Int32} {d : Nat} (h : kT x d < 25) : kdB (true, x, d) = (false, x * 5 + 1, d + 1) := by rw [kdB, if_pos rfl, if_pos h]
theorem kdB_ge {x : Int32} {d : Nat} (h : ¬ kT x d < 25) : kdB (true, x, d) = (true, x * 7 + 3, d + 1) := by rw [kdB, if_pos rfl, if_neg h]
theorem len_t2 {n : Nat} (hn : 0 < n) (hn2 : n ≤ 12) (u : Nat) {x : Int32} {d : Nat} (hd : 1 < d) : (txN n u (true, x, d)).length ≤ 43 := by
  cases u with
  | zero => exact Nat.zero_le _
  | succ u =>
    have hk := kT_deep (x := x) hd
    have hk2 := kT_in x d
    have e : kN (true, x, d) = kT x d := rfl
    rw [txN]
    by_cases h : kT x d < 25
    · rw [kdA_lt h, kdB_lt h]
      exact (tx1_len (a := 14) hn hn2 (fun _ => len_s2 hn hn2 u (show 1 < d + 1 by omega)) (fun _ => len_s2 hn hn2 u (show 1 < d + 1 by omega))).2
    · exact (tx1_len (a := 14) hn hn2 (fun h => absurd h (hasA_no (by omega))) (fun h => absurd h (hasC_no (by omega)))).2
theorem len_t1 {n : Nat} (hn : 0 < n) (hn2 : n ≤ 12) (u : Nat) {x : Int32} {d : Nat} (hd : 0 < d) : (txN n u (true, x, d)).length ≤ 101 := by
  cases u with
  | zero => exact Nat.zero_le _
  | succ u =>
    rw [txN]
    by_cases h : kT x d < 25
    · rw [kdA_lt h, kdB_lt h]
      exact (tx1_len (a := 43) hn hn2 (fun _ => Nat.le_trans (len_s2 hn hn2 u (show 1 < d + 1 by omega)) (by decide)) (fun _ => Nat.le_trans (len_s2 hn hn2 u (show 1 < d + 1 by omega)) (by decide))).2
    · rw [kdA_ge h, kdB_ge h]
      exact (tx1_len (a := 43) hn hn2 (fun _ => len_t2 hn hn2 u (show 1 < d + 1 by omega)) (fun _ => len_t2 hn hn2 u (show 1 < d + 1 by omega))).2
theorem len_t0 {n : Nat} (hn : 0 < n) (hn2 : n ≤ 12) (u : Nat) {x : Int32} {d : Nat} : (txN n u (true, x, d)).length ≤ 217 := by
  cases u with
  | zero => exact Nat.zero_le _
  | succ u =>
    rw [txN]
    by_cases h : kT x d < 25
    · rw [kdA_lt h, kdB_lt h]
      exact (tx1_len (a := 101) hn hn2 (fun _ => Nat.le_trans (len_s1 hn hn2 u (show 0 < d + 1 by omega)) (by decide)) (fun _ => Nat.le_trans (len_s1 hn hn2 u (show 0 < d + 1 by omega)) (by decide))).2
    · rw [kdA_ge h, kdB_ge h]
      exact (tx1_len (a := 101) hn hn2 (fun _ => len_t1 hn hn2 u (show 0 < d + 1 by omega)) (fun _ => len_t1 hn hn2 u (show 0 < d + 1 by omega))).2
theorem hsT_len (Z : GZ) : ∀ {k : Nat}, k ≤ 10 → (hsT Z k).length ≤ 25 * k
  | 0, _ => Nat.le_refl _
  | k + 1, hk => by
    have h1 := hsT_len Z (k := k) (by omega)
    have h2 := dg_2 (v := k) (by omega)
    have h3 := dg_2 (v := toP Z k) (toP_lt Z k)
    have h4 := dg_2 (v := toH Z k) (by have := toH_le Z k; omega)
    rw [hsT]
    simp only [List.length_append, cx_0, cx_1, cx_2, cx_3, cx_4, cx_5, cx_6, cx_7, cx_8, cx_9, cx_10, cx_11, cx_12, dTx_len]
    omega
theorem lcT_len (Z : GZ) (k : Nat) (T : List Nat) : (lcT Z k T).length ≤ T.length + 120 := by
  have hn := toN_in Z
  have h1 : (txN (toN Z) 2 (oneQ Z k)).length ≤ 43 := len_s1 (by omega) (by omega) 2 (by decide)
  have h2 : (txN (toN Z) 2 (twoQ Z k)).length ≤ 43 := len_s1 (by omega) (by omega) 2 (by decide)
  have h3 := dg_2 (v := toV Z k) (by have := toV_lt Z k; omega)
  unfold lcT
  split
  · simp only [List.length_append, cx_0, cx_1, cx_2, cx_3, cx_4, cx_5, cx_6, cx_7, cx_8, cx_9, cx_10, cx_11, cx_12, dTx_len]
    omega
  · split
    · simp only [List.length_append, cx_0, cx_1, cx_2, cx_3, cx_4, cx_5, cx_6, cx_7, cx_8, cx_9, cx_10, cx_11, cx_12, dTx_len]
      omega
    · simp only [List.length_append, cx_0, cx_1, cx_2, cx_3, cx_4, cx_5, cx_6, cx_7, cx_8, cx_9, cx_10, cx_11, cx_12, dTx_len]
      omega
theorem whT_len (Z : GZ) (k : Nat) : (whT Z k).length ≤ 230 := by
  have hn := toN_in Z
  have h1 : (txN (toN Z) 4 (tesQ Z k)).length ≤ 217 := len_t0 (by omega) (by omega) 4
  unfold whT
  split
  · simp only [List.length_append, List.length_nil, cx_0, cx_1, cx_2, cx_3, cx_4, cx_5, cx_6, cx_7, cx_8, cx_9, cx_10, cx_11, cx_12]
    omega
  · rw [cx_10]
    decide
theorem lwT_len (Z : GZ) : ∀ (k : Nat), (lwT Z k).length ≤ 225 + 351 * k
  | 0 => by
    have hn := toN_in Z
    have h1 := hsT_len Z (k := toN Z) (by omega)
    rw [lwT]
    omega
  | k + 1 => by
    have h1 := lwT_len Z k
    have h2 := lcT_len Z k (lwT Z k)
    have h3 := whT_len Z k
    rw [lwT]
    simp only [List.length_append, cx_12]
    omega
theorem wi_snoc {rw : Nat → Nat} {j : Nat} : va_up (fun i => if i < j then some (rw i) else none) j (some (rw j)) = fun i => if i < j + 1 then some (rw i) else none := by
  funext i
  by_cases e : i = j
  · subst e; simp [va_up]
  · have h : i < j ↔ i < j + 1 := by omega
    simp [va_up, e, h]
theorem wi_last {rw : Nat → Nat} {n a : Nat} (ha : rw n = a) : ∀ i, i < n + 1 → va_up (fun i => if i < n then some (rw i) else none) n (some a) i = some (rw i) := by
  intro i hi
  by_cases e : i = n
  · subst e; simp [va_up, ha]
  · have h : i < n := by omega
    simp [va_up, e, h]
