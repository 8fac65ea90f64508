/-! Trees: what a number makes of them, how they lie, what they tell. -/
def belN (x : Int32) (n : Nat) : Nat := (x.toBitVec.toNat % 2147483648) % n
theorem belN_lt {x : Int32} {n : Nat} (h : 0 < n) : belN x n < n := Nat.mod_lt _ h
abbrev TN : Type := Bool × Int32 × Nat
def kS (x : Int32) (d : Nat) : Nat := if belN x 19 < 4 then 0 else if 1 < d ∧ 11 < belN x 19 then 0 else if belN x 19 < 12 then 1 + belN x 19 % 5 else 6 + belN x 19 % 7
def uS (x : Int32) : Nat := if belN (x >>> ((7 : Int32) &&& 31)) 6 = 0 then 1000000 else 19
def nS (x : Int32) (d n : Nat) : Nat := if kS x d = 0 then belN (x >>> ((3 : Int32) &&& 31)) (uS x) else belN (x >>> ((4 : Int32) &&& 31)) n
def wT (x : Int32) : Nat := belN (x >>> ((1 : Int32) &&& 31)) 14
def kT (x : Int32) (d : Nat) : Nat := if wT x < 5 then 20 + wT x % 5 else if 1 < d ∧ 10 < wT x then 20 + wT x % 5 else if wT x < 11 then 25 + wT x % 2 else 29 + wT x % 3
def kN (q : TN) : Nat := if q.1 = true then kT q.2.1 q.2.2 else kS q.2.1 q.2.2
def nuQ (n : Nat) (q : TN) : Nat := if q.1 = true then belN (q.2.1 >>> ((4 : Int32) &&& 31)) n else nS q.2.1 q.2.2 n
def otN (n : Nat) (q : TN) : Nat := if q.1 = true then belN (q.2.1 >>> ((6 : Int32) &&& 31)) n else 0
def kdA (q : TN) : TN := if q.1 = true then (if kT q.2.1 q.2.2 < 25 then (false, q.2.1 * 3 + 7, q.2.2 + 1) else (true, q.2.1 * 3 + 5, q.2.2 + 1)) else (false, q.2.1 * 3 + 1, q.2.2 + 1)
def kdB (q : TN) : TN := if q.1 = true then (if kT q.2.1 q.2.2 < 25 then (false, q.2.1 * 5 + 1, q.2.2 + 1) else (true, q.2.1 * 7 + 3, q.2.2 + 1)) else (false, q.2.1 * 5 + 2, q.2.2 + 1)
theorem kS_lt (x : Int32) (d : Nat) : kS x d ≤ 12 := by
  unfold kS
  repeat' split
  all_goals omega
theorem kS_deep {x : Int32} {d : Nat} (h : 1 < d) : kS x d ≤ 5 := by
  unfold kS
  repeat' split
  all_goals omega
theorem kT_in (x : Int32) (d : Nat) : 20 ≤ kT x d ∧ kT x d ≤ 31 ∧ ¬ kT x d = 27 ∧ ¬ kT x d = 28 := by
  unfold kT
  repeat' split
  all_goals omega
theorem kT_deep {x : Int32} {d : Nat} (h : 1 < d) : kT x d ≤ 26 := by
  unfold kT
  repeat' split
  all_goals omega
theorem uS_in (x : Int32) : 0 < uS x ∧ uS x ≤ 1000000 := by
  unfold uS
  split <;> omega
/-- the kinds there are -/
theorem kN_in (q : TN) : (kN q ≤ 12 ∨ 20 ≤ kN q) ∧ kN q ≤ 31 ∧ ¬ kN q = 27 ∧ ¬ kN q = 28 := by
  unfold kN
  split
  · have := kT_in q.2.1 q.2.2
    omega
  · have := kS_lt q.2.1 q.2.2
    omega
theorem nm_big {n : Nat} (hn : 0 < n) (hn2 : n ≤ 12) (q : TN) : nuQ n q < 1000000 := by
  unfold nuQ
  split
  · have := belN_lt (x := q.2.1 >>> ((4 : Int32) &&& 31)) hn
    omega
  · unfold nS
    have h1 := uS_in q.2.1
    split
    · have := belN_lt (x := q.2.1 >>> ((3 : Int32) &&& 31)) h1.1
      omega
    · have := belN_lt (x := q.2.1 >>> ((4 : Int32) &&& 31)) hn
      omega
theorem nm_lt {n : Nat} (hn : 0 < n) {q : TN} (h : ¬ kN q = 0) : nuQ n q < n := by
  unfold nuQ
  split
  · exact belN_lt hn
  · rename_i h1
    have h2 : ¬ kS q.2.1 q.2.2 = 0 := by
      unfold kN at h
      rw [if_neg h1] at h
      exact h
    unfold nS
    rw [if_neg h2]
    exact belN_lt hn
theorem ot_lt {n : Nat} (hn : 0 < n) (q : TN) : otN n q < n := by
  unfold otN
  split
  · exact belN_lt hn
  · exact hn
/-- a tree's cell: where, its kind, number, other, its branches -/
abbrev TC : Type := Nat × Nat × Nat × Nat × Option Nat × Option Nat
def tcE (c : TC) : Nat × va_E := (c.1, .inr (9, [.int (nI c.2.1), .int (nI c.2.2.1), .int (nI c.2.2.2.1), va_rf c.2.2.2.2.1, va_rf c.2.2.2.2.2]))
def wPl (_ : GZ) (L : List TC) : va_W := L.map tcE
def wNd (_ : GZ) (a : Nat) (k m o : Int32) (va vb : Value) : va_W := [(a, .inr (9, [.int k, .int m, .int o, va, vb]))]
theorem wPl_at {Z : GZ} {L : List TC} {i : Nat} {c : TC} (h : L[i]? = some c) : (wPl Z L)[i]? = some (tcE c) := by
  simp [wPl, List.getElem?_map, h]
theorem wPl_app (Z : GZ) (L M : List TC) : wPl Z (L ++ M) = wPl Z L ++ wPl Z M := by simp [wPl]
theorem wPl_nil (Z : GZ) : wPl Z [] = [] := rfl
def hasA (k : Nat) : Bool := (decide (6 ≤ k) && decide (k ≤ 24)) || decide (29 ≤ k)
def hasC (k : Nat) : Bool := (decide (7 ≤ k) && decide (k ≤ 24)) || decide (30 ≤ k)
/-- the tree q, no deeper than f, lies at a -/
def InT (n : Nat) (L : List TC) : Nat → Nat → TN → Prop
  | 0, _, _ => False
  | f + 1, a, q => ∃ oa ob, (a, kN q, nuQ n q, otN n q, oa, ob) ∈ L ∧ (hasA (kN q) = true → ∃ x, oa = some x ∧ InT n L f x (kdA q)) ∧ (hasC (kN q) = true → ∃ y, ob = some y ∧ InT n L f y (kdB q))
theorem InT.mono {n : Nat} {L M : List TC} (h : ∀ c, c ∈ L → c ∈ M) : ∀ {f a : Nat} {q : TN}, InT n L f a q → InT n M f a q
  | 0, _, _, h0 => h0
  | f + 1, a, q, h0 => by
    obtain ⟨oa, ob, h1, h2, h3⟩ := h0
    refine ⟨oa, ob, h _ h1, fun e => ?_, fun e => ?_⟩
    · obtain ⟨x, e1, e2⟩ := h2 e
      exact ⟨x, e1, InT.mono h e2⟩
    · obtain ⟨x, e1, e2⟩ := h3 e
      exact ⟨x, e1, InT.mono h e2⟩
/-- how deep -/
def NdS (f d : Nat) : Prop := 1 ≤ f ∧ (1 < d ∨ (d = 1 ∧ 2 ≤ f))
def NdT (f d : Nat) : Prop := (d = 2 ∧ 2 ≤ f) ∨ (d = 1 ∧ 3 ≤ f) ∨ (d = 0 ∧ 4 ≤ f)
def NdN (f : Nat) (q : TN) : Prop := if q.1 = true then NdT f q.2.2 else NdS f q.2.2
/-- two sides -/
def twN (k : Nat) (x y : Int32) : Int32 :=
  if k = 7 then x + y else if k = 8 then x - y else if k = 9 then x * y
  else if k = 10 then (if y = 0 then 0 else if y = -1 then -x else x / y)
  else if k = 11 then (if x < y then x else y) else if k = 12 then (if x < y then y else x)
  else if k = 20 then (if x < y then 1 else 0) else if k = 21 then (if x ≤ y then 0 else 1) else if k = 22 then (if x = y then 1 else 0)
  else if k = 23 then (if x ≤ y then 1 else 0) else if k = 24 then (if x < y then 0 else 1)
  else if k = 30 then (if x + y = 2 then 1 else 0) else (if x + y ≤ 0 then 0 else 1)
def lfN (n : Nat) (dy : Int32) (p h f t : Nat → Nat) (q : TN) : Int32 :=
  if kN q = 0 then nI (nuQ n q) else if kN q = 1 then dy else if kN q = 2 then nI (mxN (fun a => loN p h f t n a) n)
  else if kN q = 3 then nI (loN p h f t n (nuQ n q)) else if kN q = 4 then nI (caN p h f t n (nuQ n q)) else if kN q = 5 then nI (h (nuQ n q))
  else if kN q = 25 then (if ltN p h f t (otN n q) (nuQ n q) = 0 then 0 else 1) else (if loN p h f t n (nuQ n q) = 0 then 0 else 1)
def ofN (n : Nat) (dy : Int32) (p h f t : Nat → Nat) : Nat → TN → Int32
  | 0, _ => 0
  | u + 1, q => if kN q = 6 then -(ofN n dy p h f t u (kdA q)) else if kN q = 29 then 1 - ofN n dy p h f t u (kdA q)
    else if hasC (kN q) = true then twN (kN q) (ofN n dy p h f t u (kdA q)) (ofN n dy p h f t u (kdB q)) else lfN n dy p h f t q

theorem df_X10 : ∀ j, j < 5 → defaultValue (tyX10 j) = vp_V [.int 0, .int 0, .int 0, .null, .null] j := by
  intro j hj
  match j, hj with
  | 0, _ => rfl
  | 1, _ => rfl
  | 2, _ => rfl
  | 3, _ => rfl
  | 4, _ => rfl
theorem bel_and (x : Int32) : x &&& 2147483647 = nI (x.toBitVec.toNat % 2147483648) := pk_and x 31 (by decide)
def ceN (Z : GZ) (k : Nat) : Int32 := if k < zms Z 4 then zxs Z k else 790386105 * nI (k + 3)
/-- two ways that come to one place -/
theorem J_alt {Z : GZ} {X : CX} {R : Room} {nL : Nat} {Q : State → Prop} {rc rs pc : Nat} {lv : List (Nat × Value)} {st : List Value} {ws : va_W} {ι : Type} {P : ι → Prop} (rc2 rs2 pc2 : Nat) (lv2 : ι → List (Nat × Value)) (st2 : ι → List Value) (ws2 : ι → va_W) (hk : ∀ i, P i → Jd Z X R nL Q rc2 rs2 pc2 (lv2 i) (st2 i) (ws2 i)) (h : (∀ i, P i → Jd Z X R nL Q rc2 rs2 pc2 (lv2 i) (st2 i) (ws2 i)) → Jd Z X R nL Q rc rs pc lv st ws) : Jd Z X R nL Q rc rs pc lv st ws := h hk
theorem J_drop {Z : GZ} {X : CX} {R : Room} {nL : Nat} {Q : State → Prop} {rc rs pc : Nat} {lv : List (Nat × Value)} {st : List Value} {ws : va_W} (A M B : va_W) (h : ws = (A ++ M) ++ B) (k : Jd Z X R nL Q rc rs pc lv st (A ++ B)) : Jd Z X R nL Q rc rs pc lv st ws := by
  subst h
  refine J_perm ((A ++ B) ++ M) (sw2 A M B) ?_
  intro ls H locs cells slots hc hs hl hP hD hS
  have key : ∀ (i : Nat) (q : Nat × va_E), (A ++ B)[i]? = some q → ((A ++ B) ++ M)[i]? = some q := fun i q hq => by
    rw [List.getElem?_append_left (List.getElem?_eq_some_iff.mp hq).1]
    exact hq
  exact k ls H locs cells slots hc hs hl (fun i q hq => hP i q (key i q hq)) ⟨fun i j p q hi hj e => hD.1 i j p q (key i p hi) (key j q hj) e, fun i q hq => hD.2 i q (key i q hq)⟩ hS
def cN : Nat → Nat
  | 0 => 0
  | f + 1 => 1 + 2 * cN f
def sN : Nat → Nat
  | 0 => 0
  | f + 1 => 5 + 2 * sN f
def rmS (f : Nat) : Room := rmM (2 + f) (cN f) (sN f)
theorem rmS_le {a b n : Nat} (h : a < b) (hn : n ≤ 21) : (rmS a).frames + 1 ≤ (rmS b).frames ∧ 8 + (n + 11) + (rmS a).locals ≤ (rmS b).locals := by
  simp only [rmS, rmM]
  omega
theorem rmS_k {a b n : Nat} (ha : a ≤ 1) (hn : n ≤ 21) : (rmK a).frames + 1 ≤ (rmS b).frames ∧ 8 + (n + 11) + (rmK a).locals ≤ (rmS b).locals := by
  simp only [rmS, rmM, rmK]
  omega
theorem shr_lit (x : Int32) (c : Int32) : x >>> (c &&& 31) = x >>> (c &&& 31) := rfl
/-- what a maker of trees gives -/
def MkT (Z : GZ) (n f : Nat) (q : TN) (v : Option Value) (w : va_W) : Prop := ∃ (L : List TC) (a : Nat), v = some (.ref a) ∧ w = wPl Z L ∧ InT n L f a q
theorem MkT.mk {Z : GZ} {n f : Nat} {q : TN} {v : Option Value} {w : va_W} {L1 L2 : List TC} {a : Nat} {oa ob : Option Nat} (h1 : v = some (.ref a)) (h2 : w = (wNd Z a (nI (kN q)) (nI (nuQ n q)) (nI (otN n q)) (va_rf oa) (va_rf ob) ++ wPl Z L1) ++ wPl Z L2) (hA : hasA (kN q) = true → ∃ x, oa = some x ∧ InT n L1 f x (kdA q)) (hB : hasC (kN q) = true → ∃ y, ob = some y ∧ InT n L2 f y (kdB q)) : MkT Z n (f + 1) q v w := by
  refine ⟨((a, kN q, nuQ n q, otN n q, oa, ob) :: L1) ++ L2, a, h1, ?_, oa, ob, by simp, fun e => ?_, fun e => ?_⟩
  · rw [h2, wPl_app]
    rfl
  · obtain ⟨x, e1, e2⟩ := hA e
    exact ⟨x, e1, InT.mono (fun c hc => by simp [hc]) e2⟩
  · obtain ⟨x, e1, e2⟩ := hB e
    exact ⟨x, e1, InT.mono (fun c hc => by simp [hc]) e2⟩
theorem hasA_no {k : Nat} (h : k < 6 ∨ (25 ≤ k ∧ k < 29)) : ¬ hasA k = true := by
  unfold hasA
  simp
  omega
theorem hasC_no {k : Nat} (h : k < 7 ∨ (25 ≤ k ∧ k < 30)) : ¬ hasC k = true := by
  unfold hasC
  simp
  omega
theorem nds_a {fu d : Nat} {x : Int32} (hd : NdS (fu + 1) d) (h : ¬ kS x d < 6) : NdS fu (d + 1) ∧ d + 1 ≤ 3 := by
  obtain ⟨h1, h2⟩ := hd
  rcases h2 with h2 | h2
  · have := kS_deep (x := x) h2
    omega
  · exact ⟨⟨by omega, Or.inl (by omega)⟩, by omega⟩
theorem ndt_s {fu d : Nat} (hd : NdT (fu + 1) d) : NdS fu (d + 1) ∧ d + 1 ≤ 3 := by
  rcases hd with ⟨h1, h2⟩ | ⟨h1, h2⟩ | ⟨h1, h2⟩
  · exact ⟨⟨by omega, Or.inl (by omega)⟩, by omega⟩
  · exact ⟨⟨by omega, Or.inl (by omega)⟩, by omega⟩
  · exact ⟨⟨by omega, Or.inr (by omega)⟩, by omega⟩
theorem ndt_t {fu d : Nat} {x : Int32} (hd : NdT (fu + 1) d) (h : ¬ kT x d ≤ 28) : NdT fu (d + 1) := by
  rcases hd with ⟨h1, h2⟩ | ⟨h1, h2⟩ | ⟨h1, h2⟩
  · have := kT_deep (x := x) (d := d) (by omega)
    omega
  · exact Or.inl (by omega)
  · exact Or.inr (Or.inl (by omega))
theorem ndt_le {f d : Nat} (hd : NdT f d) : d ≤ 2 := by
  rcases hd with h | h | h <;> omega
