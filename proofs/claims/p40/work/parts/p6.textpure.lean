/-- the words' rows -/
def wdA (Z : GZ) : Nat → Option Nat := fun j => some (zsk Z ([13, 14, 15, 16, 17, 18].getD j 0))
def wdB (Z : GZ) : Nat → Option Nat := fun j => some (zsk Z ([19, 20, 21, 22, 23, 24].getD j 0))
def wdC (Z : GZ) : Nat → Option Nat := fun j => some (zsk Z ([25, 26, 27, 28, 29].getD j 0))
/-- what a node tells, with its branches' texts -/
def tx1 (n : Nat) (q : TN) (A B : List Nat) : List Nat := if kN q = 0 then ((([] : List Nat) ++ cTx 13) ++ dTx (nuQ n q)) else if kN q = 1 then cTx 14 else if kN q = 2 then cTx 15 else if kN q = 3 then (((([] : List Nat) ++ cTx 16) ++ dTx (nuQ n q)) ++ cTx 30) else if kN q = 4 then (((([] : List Nat) ++ cTx 17) ++ dTx (nuQ n q)) ++ cTx 30) else if kN q = 5 then (((([] : List Nat) ++ cTx 18) ++ dTx (nuQ n q)) ++ cTx 30) else if kN q = 6 then (((([] : List Nat) ++ cTx 31) ++ A) ++ cTx 32) else if kN q = 7 then (((((((([] : List Nat) ++ cTx 33) ++ A) ++ cTx 32) ++ cTx 19) ++ cTx 33) ++ B) ++ cTx 32) else if kN q = 8 then (((((((([] : List Nat) ++ cTx 33) ++ A) ++ cTx 32) ++ cTx 20) ++ cTx 33) ++ B) ++ cTx 32) else if kN q = 9 then (((((((([] : List Nat) ++ cTx 33) ++ A) ++ cTx 32) ++ cTx 21) ++ cTx 33) ++ B) ++ cTx 32) else if kN q = 10 then (((((((([] : List Nat) ++ cTx 33) ++ A) ++ cTx 32) ++ cTx 22) ++ cTx 33) ++ B) ++ cTx 32) else if kN q = 11 then (((((([] : List Nat) ++ cTx 23) ++ A) ++ cTx 34) ++ B) ++ cTx 32) else if kN q = 12 then (((((([] : List Nat) ++ cTx 24) ++ A) ++ cTx 34) ++ B) ++ cTx 32) else if kN q = 20 then (((([] : List Nat) ++ A) ++ cTx 25) ++ B) else if kN q = 21 then (((([] : List Nat) ++ A) ++ cTx 26) ++ B) else if kN q = 22 then (((([] : List Nat) ++ A) ++ cTx 27) ++ B) else if kN q = 23 then (((([] : List Nat) ++ A) ++ cTx 28) ++ B) else if kN q = 24 then (((([] : List Nat) ++ A) ++ cTx 29) ++ B) else if kN q = 25 then (((((([] : List Nat) ++ cTx 35) ++ dTx (nuQ n q)) ++ cTx 36) ++ dTx (otN n q)) ++ cTx 30) else if kN q = 26 then (((([] : List Nat) ++ cTx 37) ++ dTx (nuQ n q)) ++ cTx 30) else if kN q = 29 then (((([] : List Nat) ++ cTx 38) ++ A) ++ cTx 39) else if kN q = 30 then (((((((([] : List Nat) ++ cTx 40) ++ A) ++ cTx 39) ++ cTx 41) ++ cTx 40) ++ B) ++ cTx 39) else (((((((([] : List Nat) ++ cTx 40) ++ A) ++ cTx 39) ++ cTx 42) ++ cTx 40) ++ B) ++ cTx 39)
def txN (n : Nat) : Nat → TN → List Nat
  | 0, _ => []
  | u + 1, q => tx1 n q (txN n u (kdA q)) (txN n u (kdB q))
def tcN : Nat → Nat
  | 0 => 0
  | f + 1 => 20 + 2 * tcN f
def tsN : Nat → Nat
  | 0 => 0
  | f + 1 => 31000 + 2 * tsN f
def rmT (f : Nat) : Room := rmM (12 + f) (tcN f) (tsN f)
theorem rmT_le {a b n : Nat} (h : a < b) (hn : n ≤ 21) : (rmT a).frames + 1 ≤ (rmT b).frames ∧ 8 + (n + 11) + (rmT a).locals ≤ (rmT b).locals := by
  simp only [rmT, rmM]
  omega
theorem rmT_m {a b c d n : Nat} (h : a < 12) (hn : n ≤ 21) : (rmM a c d).frames + 1 ≤ (rmT b).frames ∧ 8 + (n + 11) + (rmM a c d).locals ≤ (rmT b).locals := by
  simp only [rmT, rmM]
  omega
/-- a text, a constant or a new one -/
def TxR (Z : GZ) (L : List TC) (T : List Nat) (v : Option Value) (w : va_W) : Prop := (∃ j, j < 43 ∧ v = some (.ref (zsk Z j)) ∧ w = wPl Z L ∧ T = cTx j) ∨ (∃ (s t : Nat) (b : Nat → Int32), v = some (.ref s) ∧ w = (wPl Z L ++ wTo Z s t) ++ arrB Z t T.length b ∧ TxT T b)
theorem J_rowQ4 {Z : GZ} {X : CX} {R : Room} {nL : Nat} {Q : State → Prop} {rc rs pc : Nat} {lv : List (Nat × Value)} {st : List Value} {ws : va_W} (q0 : Nat) {a n t0 : Nat} {f g : Nat → Option Nat} (ws2 : va_W) (he : ws[q0]? = some (a, .inl (zA Z t0, n, .inr (.inr (.inr (.inr f)))))) (hfg : ∀ i, i < n → f i = g i) (h2 : ws.set q0 (a, .inl (zA Z t0, n, .inr (.inr (.inr (.inr g))))) = ws2) (k : Jd Z X R nL Q rc rs pc lv st ws2) : Jd Z X R nL Q rc rs pc lv st ws := by
  subst h2
  intro ls H locs cells slots hc hs hl hP hD hS
  refine k ls H locs cells slots hc hs hl ?_ (hD.set he) hS
  intro k1 q hq
  by_cases e : q0 = k1
  · subst e
    rw [List.getElem?_set_self (List.getElem?_eq_some_iff.mp he).1] at hq
    cases hq
    have h1 := hP q0 _ he
    show H[a]? = some (vp_cell (zA Z t0) (n, .inr (.inr (.inr (.inr g)))))
    have e2 : vp_cell (zA Z t0) (n, .inr (.inr (.inr (.inr g)))) = vp_cell (zA Z t0) (n, .inr (.inr (.inr (.inr f)))) := by
      rw [vp_cell_q, vp_cell_q]
      exact arrV_congr (fun i hi => by rw [hfg i hi])
    rw [e2]
    exact h1
  · rw [List.getElem?_set_ne e] at hq
    exact hP k1 q hq
theorem fit3 {P : Nat → Prop} {n : Nat} (h : ∀ i : Fin n, P i.1) : ∀ i, i < n → P i := fun i hi => h ⟨i, hi⟩
