/-- the model's code of a kind -/
def km (k : Nat) : Int32 := if k < 24 then nI k else match k with
  | 24 => 40 | 25 => 41 | 26 => 91 | 27 => 93 | 28 => 59 | 29 => 44 | 30 => 43 | 31 => 45 | 32 => 42 | 33 => 47 | 34 => 60 | 35 => 62 | 36 => 61 | 37 => 316 | 38 => 318 | 39 => 30 | 40 => 31 | 41 => 33 | _ => 32
theorem km_inj0 : ∀ a : Fin 43, ∀ b : Fin 43, km a.1 = km b.1 → a = b := by decide +kernel
theorem km_inj {a b : Nat} (ha : a < 43) (hb : b < 43) (h : km a = km b) : a = b := congrArg Fin.val (km_inj0 ⟨a, ha⟩ ⟨b, hb⟩ h)
/-- the model's number of a step's kind -/
def omN (c : Nat) : Int32 := match c with
  | 0 => 100 | 1 => 11 | 2 => 15 | 3 => 12 | 4 => 13 | 5 => 14 | 6 => 17 | 7 => 18 | 8 => 105 | 9 => 19 | 10 => 101 | 11 => 102 | 12 => 103 | 13 => 104 | 14 => 22 | 15 => 23 | 16 => 106 | 17 => 107 | 18 => 108 | 19 => 109 | 20 => 110 | 21 => 20 | _ => 21
/-- steps that are one sum (false) or one test (true) -/
def SegC (o : Nat → Int32) (P : Bool → Nat → Nat → Prop) : Prop :=
  (∀ s c, c ≤ 5 → o s = nI c → P false s (s + 1)) ∧
  (∀ s c, 6 ≤ c → c ≤ 7 → o s = nI c → P true s (s + 1)) ∧
  (∀ s t, P false s t → o t = nI 8 → P false s (t + 1)) ∧
  (∀ s t, P true s t → o t = nI 9 → P true s (t + 1)) ∧
  (∀ s t u c, P false s t → P false t u → 10 ≤ c → c ≤ 15 → o u = nI c → P false s (u + 1)) ∧
  (∀ s t u c, P false s t → P false t u → 16 ≤ c → c ≤ 20 → o u = nI c → P true s (u + 1)) ∧
  (∀ s t u c, P true s t → P true t u → 21 ≤ c → c ≤ 22 → o u = nI c → P true s (u + 1))
def Seg (o : Nat → Int32) (b : Bool) (s t : Nat) : Prop := ∀ P : Bool → Nat → Nat → Prop, SegC o P → P b s t
theorem Seg.lf {o : Nat → Int32} {s c : Nat} (hc : c ≤ 5) (h : o s = nI c) : Seg o false s (s + 1) := fun _ H => H.1 s c hc h
theorem Seg.lt {o : Nat → Int32} {s c : Nat} (h1 : 6 ≤ c) (hc : c ≤ 7) (h : o s = nI c) : Seg o true s (s + 1) := fun _ H => H.2.1 s c h1 hc h
theorem Seg.ng {o : Nat → Int32} {s t : Nat} (h1 : Seg o false s t) (h : o t = nI 8) : Seg o false s (t + 1) := fun P H => H.2.2.1 s t (h1 P H) h
theorem Seg.nt {o : Nat → Int32} {s t : Nat} (h1 : Seg o true s t) (h : o t = nI 9) : Seg o true s (t + 1) := fun P H => H.2.2.2.1 s t (h1 P H) h
theorem Seg.bi {o : Nat → Int32} {s t u c : Nat} (h1 : Seg o false s t) (h2 : Seg o false t u) (h3 : 10 ≤ c) (hc : c ≤ 15) (h : o u = nI c) : Seg o false s (u + 1) := fun P H => H.2.2.2.2.1 s t u c (h1 P H) (h2 P H) h3 hc h
theorem Seg.cm {o : Nat → Int32} {s t u c : Nat} (h1 : Seg o false s t) (h2 : Seg o false t u) (h3 : 16 ≤ c) (hc : c ≤ 20) (h : o u = nI c) : Seg o true s (u + 1) := fun P H => H.2.2.2.2.2.1 s t u c (h1 P H) (h2 P H) h3 hc h
theorem Seg.an {o : Nat → Int32} {s t u c : Nat} (h1 : Seg o true s t) (h2 : Seg o true t u) (h3 : 21 ≤ c) (hc : c ≤ 22) (h : o u = nI c) : Seg o true s (u + 1) := fun P H => H.2.2.2.2.2.2 s t u c (h1 P H) (h2 P H) h3 hc h
theorem Seg.lt_ {o : Nat → Int32} {b : Bool} {s t : Nat} (h : Seg o b s t) : s < t :=
  h (fun _ s t => s < t) ⟨fun _ _ _ _ => by omega, fun _ _ _ _ _ => by omega, fun _ _ _ _ => by omega, fun _ _ _ _ => by omega, fun _ _ _ _ _ _ _ _ _ => by omega, fun _ _ _ _ _ _ _ _ _ => by omega, fun _ _ _ _ _ _ _ _ _ => by omega⟩
theorem Seg.cong {o o2 : Nat → Int32} {b : Bool} {s t : Nat} (h : Seg o b s t) (e : ∀ r, s ≤ r → r < t → o2 r = o r) : Seg o2 b s t := by
  refine (h (fun b s t => s < t ∧ ((∀ r, s ≤ r → r < t → o2 r = o r) → Seg o2 b s t)) ⟨?_, ?_, ?_, ?_, ?_, ?_, ?_⟩).2 e
  · exact fun s c hc h => ⟨by omega, fun e => .lf hc ((e _ (Nat.le_refl _) (by omega)).trans h)⟩
  · exact fun s c h1 hc h => ⟨by omega, fun e => .lt h1 hc ((e _ (Nat.le_refl _) (by omega)).trans h)⟩
  · exact fun s t h1 h => ⟨by omega, fun e => .ng (h1.2 (fun r a b => e r a (by omega))) ((e _ (by omega) (by omega)).trans h)⟩
  · exact fun s t h1 h => ⟨by omega, fun e => .nt (h1.2 (fun r a b => e r a (by omega))) ((e _ (by omega) (by omega)).trans h)⟩
  · exact fun s t u c h1 h2 h3 hc h => ⟨by omega, fun e => .bi (h1.2 (fun r a b => e r a (by omega))) (h2.2 (fun r a b => e r (by omega) (by omega))) h3 hc ((e _ (by omega) (by omega)).trans h)⟩
  · exact fun s t u c h1 h2 h3 hc h => ⟨by omega, fun e => .cm (h1.2 (fun r a b => e r a (by omega))) (h2.2 (fun r a b => e r (by omega) (by omega))) h3 hc ((e _ (by omega) (by omega)).trans h)⟩
  · exact fun s t u c h1 h2 h3 hc h => ⟨by omega, fun e => .an (h1.2 (fun r a b => e r a (by omega))) (h2.2 (fun r a b => e r (by omega) (by omega))) h3 hc ((e _ (by omega) (by omega)).trans h)⟩
/-- names at tokens i, i + 1, .. (n of them) that are marked 6: who is not told is error 3 -/
def tlS (fr : Nat → Int32) (va nm : Nat → Int64) (m : Nat) (me : Nat → Int32) (k : Nat) (p : Int32 × Int32) : Int32 × Int32 := if me k = 6 ∧ hnF nm (va k) m = -1 then (if p.1 = 0 then 3 else p.1, if p.1 = 0 then fr k else p.2) else p
def tlN (fr : Nat → Int32) (va nm : Nat → Int64) (m : Nat) (me : Nat → Int32) (i : Nat) (p : Int32 × Int32) : Nat → Int32 × Int32
  | 0 => p
  | n + 1 => tlS fr va nm m me (i + n) (tlN fr va nm m me i p n)
theorem tlN_add {fr : Nat → Int32} {va nm : Nat → Int64} {m : Nat} {me : Nat → Int32} {i : Nat} {p : Int32 × Int32} {a : Nat} : ∀ b, tlN fr va nm m me i p (a + b) = tlN fr va nm m me (i + a) (tlN fr va nm m me i p a) b
  | 0 => rfl
  | b + 1 => by rw [show a + (b + 1) = (a + b) + 1 by omega, tlN, tlN, tlN_add b, Nat.add_assoc]
theorem tlN_cong {fr : Nat → Int32} {va nm : Nat → Int64} {m : Nat} {me me2 : Nat → Int32} {i : Nat} {p : Int32 × Int32} : ∀ {n : Nat}, (∀ k, i ≤ k → k < i + n → me2 k = me k) → tlN fr va nm m me2 i p n = tlN fr va nm m me i p n
  | 0, _ => rfl
  | n + 1, h => by rw [tlN, tlN, tlN_cong (fun k a b => h k a (by omega)), tlS, tlS, h (i + n) (by omega) (by omega)]
/-- a step of the model (od wi al) and of the class (o g j) -/
def RowM (va nm : Nat → Int64) (m : Nat) (tq : Nat → Nat) (me : Nat → Int32) (i2 : Nat) (od wi al o g j : Int32) : Prop :=
  ∃ c, c ≤ 22 ∧ o = nI c ∧ od = omN c ∧ (c = 0 → wi = g) ∧
    ((c = 3 ∨ c = 4 ∨ c = 5 ∨ c = 6 ∨ c = 7) → ∃ k, k < i2 ∧ me k = 6 ∧ tq k = 39 ∧ wi = nI k ∧ g = hnF nm (va k) m) ∧
    (c = 6 → ∃ k, k < i2 ∧ me k = 6 ∧ tq k = 39 ∧ al = nI k ∧ j = hnF nm (va k) m)
theorem RowM.up {va nm : Nat → Int64} {m : Nat} {tq : Nat → Nat} {me me2 : Nat → Int32} {i2 i3 : Nat} {od wi al o g j : Int32} (h : RowM va nm m tq me i2 od wi al o g j) (hi : i2 ≤ i3) (hm : ∀ k, k < i2 → me2 k = me k) : RowM va nm m tq me2 i3 od wi al o g j := by
  obtain ⟨c, h1, h2, h3, h4, h5, h6⟩ := h
  refine ⟨c, h1, h2, h3, h4, fun q => ?_, fun q => ?_⟩
  · obtain ⟨k, a, b, d⟩ := h5 q
    exact ⟨k, by omega, (hm k a).trans b, d⟩
  · obtain ⟨k, a, b, d⟩ := h6 q
    exact ⟨k, by omega, (hm k a).trans b, d⟩
/-- what was read between two tokens -/
def Gd (Lt : Nat) (tq : Nat → Nat) (fr : Nat → Int32) (va nm : Nat → Int64) (m : Nat) (tt : Bool) (i s : Nat) (me od wi al : Nat → Int32) (e a : Int32) (o g j : Nat → Int32) (i2 s2 : Nat) (me2 od2 wi2 al2 : Nat → Int32) (e2 a2 : Int32) (o2 g2 j2 : Nat → Int32) : Prop :=
  (i < i2) ∧ (i2 ≤ Lt) ∧ (s < s2) ∧ (s2 + i ≤ s + i2) ∧ (∀ k, k < i ∨ i2 ≤ k → me2 k = me k) ∧ (∀ k, i ≤ k → k < i2 → me2 k = 0 ∨ (me2 k = 6 ∧ tq k = 39)) ∧ (∀ r, r < s → od2 r = od r ∧ wi2 r = wi r ∧ al2 r = al r ∧ o2 r = o r ∧ g2 r = g r ∧ j2 r = j r) ∧ (∀ r, s ≤ r → r < s2 → RowM va nm m tq me2 i2 (od2 r) (wi2 r) (al2 r) (o2 r) (g2 r) (j2 r)) ∧ ((e2, a2) = tlN fr va nm m me2 i (e, a) (i2 - i)) ∧ (Seg o2 tt s s2)
theorem Gd.il {Lt : Nat} {tq : Nat → Nat} {fr : Nat → Int32} {va nm : Nat → Int64} {m : Nat} {tt : Bool} {i s : Nat} {me od wi al : Nat → Int32} {e a : Int32} {o g j : Nat → Int32} {i2 s2 : Nat} {me2 od2 wi2 al2 : Nat → Int32} {e2 a2 : Int32} {o2 g2 j2 : Nat → Int32} (h : Gd Lt tq fr va nm m tt i s me od wi al e a o g j i2 s2 me2 od2 wi2 al2 e2 a2 o2 g2 j2) : i < i2 := h.1
theorem Gd.iL {Lt : Nat} {tq : Nat → Nat} {fr : Nat → Int32} {va nm : Nat → Int64} {m : Nat} {tt : Bool} {i s : Nat} {me od wi al : Nat → Int32} {e a : Int32} {o g j : Nat → Int32} {i2 s2 : Nat} {me2 od2 wi2 al2 : Nat → Int32} {e2 a2 : Int32} {o2 g2 j2 : Nat → Int32} (h : Gd Lt tq fr va nm m tt i s me od wi al e a o g j i2 s2 me2 od2 wi2 al2 e2 a2 o2 g2 j2) : i2 ≤ Lt := h.2.1
theorem Gd.sl {Lt : Nat} {tq : Nat → Nat} {fr : Nat → Int32} {va nm : Nat → Int64} {m : Nat} {tt : Bool} {i s : Nat} {me od wi al : Nat → Int32} {e a : Int32} {o g j : Nat → Int32} {i2 s2 : Nat} {me2 od2 wi2 al2 : Nat → Int32} {e2 a2 : Int32} {o2 g2 j2 : Nat → Int32} (h : Gd Lt tq fr va nm m tt i s me od wi al e a o g j i2 s2 me2 od2 wi2 al2 e2 a2 o2 g2 j2) : s < s2 := h.2.2.1
theorem Gd.ss {Lt : Nat} {tq : Nat → Nat} {fr : Nat → Int32} {va nm : Nat → Int64} {m : Nat} {tt : Bool} {i s : Nat} {me od wi al : Nat → Int32} {e a : Int32} {o g j : Nat → Int32} {i2 s2 : Nat} {me2 od2 wi2 al2 : Nat → Int32} {e2 a2 : Int32} {o2 g2 j2 : Nat → Int32} (h : Gd Lt tq fr va nm m tt i s me od wi al e a o g j i2 s2 me2 od2 wi2 al2 e2 a2 o2 g2 j2) : s2 + i ≤ s + i2 := h.2.2.2.1
theorem Gd.fm {Lt : Nat} {tq : Nat → Nat} {fr : Nat → Int32} {va nm : Nat → Int64} {m : Nat} {tt : Bool} {i s : Nat} {me od wi al : Nat → Int32} {e a : Int32} {o g j : Nat → Int32} {i2 s2 : Nat} {me2 od2 wi2 al2 : Nat → Int32} {e2 a2 : Int32} {o2 g2 j2 : Nat → Int32} (h : Gd Lt tq fr va nm m tt i s me od wi al e a o g j i2 s2 me2 od2 wi2 al2 e2 a2 o2 g2 j2) : ∀ k, k < i ∨ i2 ≤ k → me2 k = me k := h.2.2.2.2.1
theorem Gd.mk {Lt : Nat} {tq : Nat → Nat} {fr : Nat → Int32} {va nm : Nat → Int64} {m : Nat} {tt : Bool} {i s : Nat} {me od wi al : Nat → Int32} {e a : Int32} {o g j : Nat → Int32} {i2 s2 : Nat} {me2 od2 wi2 al2 : Nat → Int32} {e2 a2 : Int32} {o2 g2 j2 : Nat → Int32} (h : Gd Lt tq fr va nm m tt i s me od wi al e a o g j i2 s2 me2 od2 wi2 al2 e2 a2 o2 g2 j2) : ∀ k, i ≤ k → k < i2 → me2 k = 0 ∨ (me2 k = 6 ∧ tq k = 39) := h.2.2.2.2.2.1
theorem Gd.fs {Lt : Nat} {tq : Nat → Nat} {fr : Nat → Int32} {va nm : Nat → Int64} {m : Nat} {tt : Bool} {i s : Nat} {me od wi al : Nat → Int32} {e a : Int32} {o g j : Nat → Int32} {i2 s2 : Nat} {me2 od2 wi2 al2 : Nat → Int32} {e2 a2 : Int32} {o2 g2 j2 : Nat → Int32} (h : Gd Lt tq fr va nm m tt i s me od wi al e a o g j i2 s2 me2 od2 wi2 al2 e2 a2 o2 g2 j2) : ∀ r, r < s → od2 r = od r ∧ wi2 r = wi r ∧ al2 r = al r ∧ o2 r = o r ∧ g2 r = g r ∧ j2 r = j r := h.2.2.2.2.2.2.1
theorem Gd.rw_ {Lt : Nat} {tq : Nat → Nat} {fr : Nat → Int32} {va nm : Nat → Int64} {m : Nat} {tt : Bool} {i s : Nat} {me od wi al : Nat → Int32} {e a : Int32} {o g j : Nat → Int32} {i2 s2 : Nat} {me2 od2 wi2 al2 : Nat → Int32} {e2 a2 : Int32} {o2 g2 j2 : Nat → Int32} (h : Gd Lt tq fr va nm m tt i s me od wi al e a o g j i2 s2 me2 od2 wi2 al2 e2 a2 o2 g2 j2) : ∀ r, s ≤ r → r < s2 → RowM va nm m tq me2 i2 (od2 r) (wi2 r) (al2 r) (o2 r) (g2 r) (j2 r) := h.2.2.2.2.2.2.2.1
theorem Gd.tl {Lt : Nat} {tq : Nat → Nat} {fr : Nat → Int32} {va nm : Nat → Int64} {m : Nat} {tt : Bool} {i s : Nat} {me od wi al : Nat → Int32} {e a : Int32} {o g j : Nat → Int32} {i2 s2 : Nat} {me2 od2 wi2 al2 : Nat → Int32} {e2 a2 : Int32} {o2 g2 j2 : Nat → Int32} (h : Gd Lt tq fr va nm m tt i s me od wi al e a o g j i2 s2 me2 od2 wi2 al2 e2 a2 o2 g2 j2) : (e2, a2) = tlN fr va nm m me2 i (e, a) (i2 - i) := h.2.2.2.2.2.2.2.2.1
theorem Gd.sg {Lt : Nat} {tq : Nat → Nat} {fr : Nat → Int32} {va nm : Nat → Int64} {m : Nat} {tt : Bool} {i s : Nat} {me od wi al : Nat → Int32} {e a : Int32} {o g j : Nat → Int32} {i2 s2 : Nat} {me2 od2 wi2 al2 : Nat → Int32} {e2 a2 : Int32} {o2 g2 j2 : Nat → Int32} (h : Gd Lt tq fr va nm m tt i s me od wi al e a o g j i2 s2 me2 od2 wi2 al2 e2 a2 o2 g2 j2) : Seg o2 tt s s2 := h.2.2.2.2.2.2.2.2.2
theorem Gd.ofs {Lt : Nat} {tq : Nat → Nat} {fr : Nat → Int32} {va nm : Nat → Int64} {m : Nat} {tt : Bool} {i s : Nat} {me od wi al : Nat → Int32} {e a : Int32} {o g j : Nat → Int32} {i2 s2 : Nat} {me2 od2 wi2 al2 : Nat → Int32} {e2 a2 : Int32} {o2 g2 j2 : Nat → Int32} (h : (i < i2) ∧ (i2 ≤ Lt) ∧ (s < s2) ∧ (s2 + i ≤ s + i2) ∧ (∀ k, k < i ∨ i2 ≤ k → me2 k = me k) ∧ (∀ k, i ≤ k → k < i2 → me2 k = 0 ∨ (me2 k = 6 ∧ tq k = 39)) ∧ (∀ r, r < s → od2 r = od r ∧ wi2 r = wi r ∧ al2 r = al r ∧ o2 r = o r ∧ g2 r = g r ∧ j2 r = j r) ∧ (∀ r, s ≤ r → r < s2 → RowM va nm m tq me2 i2 (od2 r) (wi2 r) (al2 r) (o2 r) (g2 r) (j2 r)) ∧ ((e2, a2) = tlN fr va nm m me2 i (e, a) (i2 - i)) ∧ (Seg o2 tt s s2)) : Gd Lt tq fr va nm m tt i s me od wi al e a o g j i2 s2 me2 od2 wi2 al2 e2 a2 o2 g2 j2 := h
section
variable {Lt : Nat} {tq : Nat → Nat} {fr : Nat → Int32} {va nm : Nat → Int64} {m : Nat} {tt : Bool} {i s : Nat} {me od wi al : Nat → Int32} {e a : Int32} {o g j : Nat → Int32} {i2 s2 : Nat} {me2 od2 wi2 al2 : Nat → Int32} {e2 a2 : Int32} {o2 g2 j2 : Nat → Int32}
theorem tl_one {p : Int32 × Int32} (h : me i = 0) : tlN fr va nm m me i p 1 = p := by
  rw [tlN, tlN, tlS, if_neg]
  rintro ⟨h1, -⟩
  rw [Nat.add_zero, h] at h1
  exact absurd h1 (by decide)
theorem Gd.pre (h : Gd Lt tq fr va nm m tt (i + 1) s me od wi al e a o g j i2 s2 me2 od2 wi2 al2 e2 a2 o2 g2 j2) (hm : me i = 0) : Gd Lt tq fr va nm m tt i s me od wi al e a o g j i2 s2 me2 od2 wi2 al2 e2 a2 o2 g2 j2 := by
  have h1 := h.il
  have h2 := h.ss
  refine Gd.ofs ⟨by omega, h.iL, h.sl, by omega, fun k hk => h.fm k (by omega), fun k a b => ?_, h.fs, h.rw_, ?_, h.sg⟩
  · rcases Nat.lt_or_ge i k with c | c
    · exact h.mk k c b
    · exact Or.inl ((h.fm k (by omega)).trans ((congrArg me (show k = i by omega)).trans hm))
  · rw [h.tl, show i2 - i = 1 + (i2 - (i + 1)) by omega, tlN_add, tl_one ((h.fm i (by omega)).trans hm)]
theorem Gd.post (h : Gd Lt tq fr va nm m tt i s me od wi al e a o g j i2 s2 me2 od2 wi2 al2 e2 a2 o2 g2 j2) (hl : i2 < Lt) (hm : me i2 = 0) : Gd Lt tq fr va nm m tt i s me od wi al e a o g j (i2 + 1) s2 me2 od2 wi2 al2 e2 a2 o2 g2 j2 := by
  have h1 := h.il
  have h2 := h.ss
  have hz := (h.fm i2 (by omega)).trans hm
  refine Gd.ofs ⟨by omega, hl, h.sl, by omega, fun k hk => h.fm k (by omega), fun k a b => ?_, h.fs, fun r a b => (h.rw_ r a b).up (by omega) (fun _ _ => rfl), ?_, h.sg⟩
  · rcases Nat.lt_or_ge k i2 with c | c
    · exact h.mk k a c
    · exact Or.inl ((congrArg me2 (show k = i2 by omega)).trans hz)
  · rw [h.tl, show i2 + 1 - i = (i2 - i) + 1 by omega, tlN, tlS, if_neg]
    rintro ⟨h1, -⟩
    rw [show i + (i2 - i) = i2 by omega, hz] at h1
    exact absurd h1 (by decide)
theorem Row_op {c : Nat} {x y z u v w : Int32} (hc : c ≤ 22) (h : c = 1 ∨ c = 2 ∨ 8 ≤ c) (hx : x = nI c) (hy : y = omN c) : RowM va nm m tq me i y z u x v w :=
  ⟨c, hc, hx, hy, fun q => by omega, fun q => by omega, fun q => by omega⟩
/-- one side: not, minus -/
theorem Gd.un {c : Nat} {z w1 w2 : Int32} (h : Gd Lt tq fr va nm m tt (i + 1) s me od wi al e a o g j i2 s2 me2 od2 wi2 al2 e2 a2 o2 g2 j2) (hm : me i = 0) (hc : c = if tt then 9 else 8) : Gd Lt tq fr va nm m tt i s me od wi al e a o g j i2 (s2 + 1) me2 (upd od2 s2 (omN c)) (upd wi2 s2 z) al2 e2 a2 (upd o2 s2 (nI c)) (upd g2 s2 w1) (upd j2 s2 w2) := by
  have h1 := h.il
  have h2 := h.ss
  have h3 := h.sl
  have hp := h.pre hm
  have hsg : Seg (upd o2 s2 (nI c)) tt s s2 := h.sg.cong (fun r a b => by rw [upd_n (by omega)])
  refine Gd.ofs ⟨hp.il, h.iL, by omega, by omega, hp.fm, hp.mk, fun r hr => ?_, fun r a b => ?_, hp.tl, ?_⟩
  · rw [upd_n (by omega), upd_n (by omega), upd_n (by omega), upd_n (by omega), upd_n (by omega)]
    exact h.fs r hr
  · rcases Nat.lt_or_ge r s2 with q | q
    · rw [upd_n (by omega), upd_n (by omega), upd_n (by omega), upd_n (by omega), upd_n (by omega)]
      exact h.rw_ r a q
    · have : r = s2 := by omega
      subst this
      rw [upd_s, upd_s, upd_s]
      cases tt
      · exact Row_op (c := c) (by rw [hc]; decide) (by rw [hc]; decide) rfl rfl
      · exact Row_op (c := c) (by rw [hc]; decide) (by rw [hc]; decide) rfl rfl
  · subst hc
    cases tt
    · exact .ng hsg upd_s
    · exact .nt hsg upd_s
/-- a row for names less: number, day, worst -/
theorem Gd.leaf {c : Nat} {z w1 w2 : Int32} (hc : c ≤ 2) (hz : c = 0 → z = w1) (hl : i < Lt) (hm : me i = 0) : Gd Lt tq fr va nm m false i s me od wi al e a o g j (i + 1) (s + 1) me (upd od s (omN c)) (upd wi s z) al e a (upd o s (nI c)) (upd g s w1) (upd j s w2) := by
  refine Gd.ofs ⟨by omega, hl, by omega, by omega, fun _ _ => rfl, fun k a b => Or.inl ((congrArg me (show k = i by omega)).trans hm), fun r hr => ?_, fun r a b => ?_, ?_, .lf (c := c) (by omega) upd_s⟩
  · rw [upd_n (by omega), upd_n (by omega), upd_n (by omega), upd_n (by omega), upd_n (by omega)]
    exact ⟨rfl, rfl, rfl, rfl, rfl, rfl⟩
  · have : r = s := by omega
    subst this
    rw [upd_s, upd_s, upd_s, upd_s, upd_s]
    exact ⟨c, by omega, rfl, rfl, hz, fun q => by omega, fun q => by omega⟩
  · rw [show i + 1 - i = 1 by omega, tl_one hm]
/-- two sides -/
theorem Gd.bin {c : Nat} {tu : Bool} {z w1 w2 : Int32} {i3 s3 : Nat} {me3 od3 wi3 al3 : Nat → Int32} {e3 a3 : Int32} {o3 g3 j3 : Nat → Int32} (h : Gd Lt tq fr va nm m tt i s me od wi al e a o g j i2 s2 me2 od2 wi2 al2 e2 a2 o2 g2 j2) (h' : Gd Lt tq fr va nm m tt (i2 + 1) s2 me2 od2 wi2 al2 e2 a2 o2 g2 j2 i3 s3 me3 od3 wi3 al3 e3 a3 o3 g3 j3) (hm : me i2 = 0)
    (hc : (tt = false ∧ tu = false ∧ 10 ≤ c ∧ c ≤ 15) ∨ (tt = false ∧ tu = true ∧ 16 ≤ c ∧ c ≤ 20) ∨ (tt = true ∧ tu = true ∧ 21 ≤ c ∧ c ≤ 22)) : Gd Lt tq fr va nm m tu i s me od wi al e a o g j i3 (s3 + 1) me3 (upd od3 s3 (omN c)) (upd wi3 s3 z) al3 e3 a3 (upd o3 s3 (nI c)) (upd g3 s3 w1) (upd j3 s3 w2) := by
  have h1 := h.il
  have h2 := h.ss
  have h3 := h.sl
  have h1' := h'.il
  have h2' := h'.ss
  have h3' := h'.sl
  have hz := (h.fm i2 (by omega)).trans hm
  have hp := h'.pre hz
  have hlow : ∀ k, k < i2 → me3 k = me2 k := fun k hk => hp.fm k (Or.inl hk)
  have hs1 : Seg (upd o3 s3 (nI c)) tt s s2 := h.sg.cong (fun r a b => by rw [upd_n (by omega)]; exact (h'.fs r b).2.2.2.1)
  have hs2 : Seg (upd o3 s3 (nI c)) tt s2 s3 := h'.sg.cong (fun r a b => by rw [upd_n (by omega)])
  refine Gd.ofs ⟨by omega, h'.iL, by omega, by omega, fun k hk => ?_, fun k a b => ?_, fun r hr => ?_, fun r a b => ?_, ?_, ?_⟩
  · exact (hp.fm k (by omega)).trans (h.fm k (by omega))
  · rcases Nat.lt_or_ge k i2 with q | q
    · rw [hlow k q]; exact h.mk k a q
    · exact hp.mk k q b
  · rw [upd_n (by omega), upd_n (by omega), upd_n (by omega), upd_n (by omega), upd_n (by omega)]
    obtain ⟨q1, q2, q3, q4, q5, q6⟩ := h'.fs r (by omega)
    rw [q1, q2, q3, q4, q5, q6]
    exact h.fs r hr
  · rcases Nat.lt_or_ge r s3 with q | q
    · rw [upd_n (by omega), upd_n (by omega), upd_n (by omega), upd_n (by omega), upd_n (by omega)]
      rcases Nat.lt_or_ge r s2 with q' | q'
      · obtain ⟨q1, q2, q3, q4, q5, q6⟩ := h'.fs r q'
        rw [q1, q2, q3, q4, q5, q6]
        exact (h.rw_ r a q').up (by omega) hlow
      · exact h'.rw_ r q' q
    · have : r = s3 := by omega
      subst this
      rw [upd_s, upd_s, upd_s]
      exact Row_op (c := c) (by omega) (by omega) rfl rfl
  · rw [h'.tl, h.tl, show i3 - i = (i2 - i) + (1 + (i3 - (i2 + 1))) by omega, tlN_add, show i + (i2 - i) = i2 by omega, tlN_add, tl_one ((h'.fm i2 (by omega)).trans hz)]
    rw [show tlN fr va nm m me3 i (e, a) (i2 - i) = tlN fr va nm m me2 i (e, a) (i2 - i) from tlN_cong (fun k a b => hlow k (by omega))]
  · rcases hc with ⟨rfl, rfl, c1, c2⟩ | ⟨rfl, rfl, c1, c2⟩ | ⟨rfl, rfl, c1, c2⟩
    · exact .bi hs1 hs2 c1 c2 upd_s
    · exact .cm hs1 hs2 c1 c2 upd_s
    · exact .an hs1 hs2 c1 c2 upd_s
/-- what a name's token tells -/
def tlK (fr : Nat → Int32) (va nm : Nat → Int64) (m i : Nat) (p : Int32 × Int32) : Int32 × Int32 := if hnF nm (va i) m = -1 then (if p.1 = 0 then 3 else p.1, if p.1 = 0 then fr i else p.2) else p
theorem tlK_S {p : Int32 × Int32} (h : me i = 6) : tlS fr va nm m me i p = tlK fr va nm m i p := by
  by_cases q : hnF nm (va i) m = -1
  · rw [tlS, tlK, if_pos ⟨h, q⟩, if_pos q]
  · rw [tlS, tlK, if_neg (fun z => q z.2), if_neg q]
theorem Gd.name {c : Nat} {w2 : Int32} {p : Int32 × Int32} (hc : (tt = false ∧ 3 ≤ c ∧ c ≤ 5) ∨ (tt = true ∧ c = 7)) (hl : i < Lt) (ht : tq i = 39) (hal : ∀ r, r < s → al2 r = al r) : Gd Lt tq fr va nm m tt i s me od wi al p.1 p.2 o g j (i + 1) (s + 1) (upd me i 6) (upd od s (omN c)) (upd wi s (nI i)) al2 (tlK fr va nm m i p).1 (tlK fr va nm m i p).2 (upd o s (nI c)) (upd g s (hnF nm (va i) m)) (upd j s w2) := by
  refine Gd.ofs ⟨by omega, hl, by omega, by omega, fun k hk => upd_n (by omega), fun k a b => ?_, fun r hr => ?_, fun r a b => ?_, ?_, ?_⟩
  · have : k = i := by omega
    subst this
    exact Or.inr ⟨upd_s, ht⟩
  · rw [upd_n (by omega), upd_n (by omega), upd_n (by omega), upd_n (by omega), upd_n (by omega)]
    exact ⟨rfl, rfl, hal r hr, rfl, rfl, rfl⟩
  · have : r = s := by omega
    subst this
    rw [upd_s, upd_s, upd_s, upd_s, upd_s]
    exact ⟨c, by omega, rfl, rfl, fun q => by omega, fun q => ⟨i, by omega, upd_s, ht, rfl, rfl⟩, fun q => by omega⟩
  · rw [show i + 1 - i = 1 by omega, tlN, tlN, Nat.add_zero, tlK_S upd_s]
  · rcases hc with ⟨rfl, c1, c2⟩ | ⟨rfl, rfl⟩
    · exact .lf c2 upd_s
    · exact .lt (by omega) (by omega) upd_s
theorem Gd.shd {p : Int32 × Int32} (hl : i + 1 < Lt) (ht : tq i = 39) (ht2 : tq (i + 1) = 39) : Gd Lt tq fr va nm m true i s me od wi al p.1 p.2 o g j (i + 1 + 1) (s + 1) (upd (upd me i 6) (i + 1) 6) (upd od s (omN 6)) (upd wi s (nI i)) (upd al s (nI (i + 1))) (tlK fr va nm m (i + 1) (tlK fr va nm m i p)).1 (tlK fr va nm m (i + 1) (tlK fr va nm m i p)).2 (upd o s (nI 6)) (upd g s (hnF nm (va i) m)) (upd j s (hnF nm (va (i + 1)) m)) := by
  have e1 : upd (upd me i 6) (i + 1) 6 i = 6 := by rw [upd_n (by omega), upd_s]
  refine Gd.ofs ⟨by omega, hl, by omega, by omega, fun k hk => ?_, fun k a b => ?_, fun r hr => ?_, fun r a b => ?_, ?_, ?_⟩
  · rw [upd_n (by omega), upd_n (by omega)]
  · rcases Nat.lt_or_ge i k with q | q
    · have : k = i + 1 := by omega
      subst this
      exact Or.inr ⟨upd_s, ht2⟩
    · have : k = i := by omega
      subst this
      exact Or.inr ⟨e1, ht⟩
  · rw [upd_n (by omega), upd_n (by omega), upd_n (by omega), upd_n (by omega), upd_n (by omega), upd_n (by omega)]
    exact ⟨rfl, rfl, rfl, rfl, rfl, rfl⟩
  · have : r = s := by omega
    subst this
    rw [upd_s, upd_s, upd_s, upd_s, upd_s, upd_s]
    exact ⟨6, by omega, rfl, rfl, fun q => by omega, fun q => ⟨i, by omega, e1, ht, rfl, rfl⟩, fun q => ⟨i + 1, by omega, upd_s, ht2, rfl, rfl⟩⟩
  · rw [show i + 1 + 1 - i = 2 by omega]
    show _ = tlS fr va nm m _ (i + 1) (tlS fr va nm m _ i (p.1, p.2))
    rw [tlK_S e1, tlK_S upd_s]
  · exact .lt (c := 6) (by omega) (by omega) upd_s
end
/-! the class's reading, where it is broken: it stays so -/
section
variable {tk : Nat → Nat} {sf : Nat → Int32} {vf nm : Nat → Int64} {m : Nat}
abbrev RT : Type := Nat × (Nat → Int32) × (Nat → Int32) × (Nat → Int32)
def Fro (f : PS → PS) : Prop := ∀ (i : Nat) (a : Int32) (r : RT), ∃ r2 : RT, f (i, true, 1, a, r) = (i, true, 1, a, r2)
theorem Fro.comp {f h : PS → PS} (hf : Fro f) (hh : Fro h) : Fro (fun q => f (h q)) := fun i a r => by
  obtain ⟨r1, e1⟩ := hh i a r
  obtain ⟨r2, e2⟩ := hf i a r1
  exact ⟨r2, by dsimp only; rw [e1, e2]⟩
theorem fro_id : Fro (fun q => q) := fun i a r => ⟨r, rfl⟩
theorem fro_take (k : Nat) (hk : k ≠ 42) : Fro (takeC tk sf k) := fun i a r => ⟨r, by rw [takeC, if_neg (fun h => hk (h.symm.trans nw_t))]; rfl⟩
theorem fro_now (i : Nat) (a : Int32) (r : RT) : nowC tk (i, true, 1, a, r) = 42 := rfl
theorem fro_fail : Fro (failC sf) := fun i a r => ⟨r, rfl⟩
theorem fro_deep (k d : Nat) (hk : k ≠ 42) : Fro (deepC tk sf k d) := fun i a r => by
  by_cases h : d < 8
  · rw [deepC, if_pos h]; exact fro_take k hk i a r
  · rw [deepC, if_neg h]; exact fro_fail i a r
theorem fro_step (x y z : Int32) : Fro (stepC x y z) := fun i a r => ⟨_, rfl⟩
theorem fro_tell (x y : Int32) : Fro (tellC x y) := fun i a r => ⟨r, rfl⟩
theorem fro_knw : Fro (knwC tk sf vf nm m) := fun i a r => by
  rw [knwC]
  obtain ⟨r1, e1⟩ := fro_take (tk := tk) (sf := sf) 39 (by decide) i a r
  by_cases h : hseC tk vf nm m (i, true, 1, a, r) = -1
  · rw [if_pos h, e1]; exact ⟨r1, rfl⟩
  · rw [if_neg h]; exact ⟨r1, e1⟩
theorem loopC_brk {c1 c2 : Nat} {x1 x2 : Int32} {v : PS → PS} (h1 : c1 ≠ 42) (h2 : c2 ≠ 42) {i : Nat} {e a : Int32} {r : RT} : ∀ f, loopC tk sf c1 c2 x1 x2 v f (i, true, e, a, r) = (i, true, e, a, r)
  | 0 => rfl
  | f + 1 => by rw [loopC, show nowC tk (i, true, e, a, r) = 42 from rfl, if_neg h1.symm, if_neg h2.symm]
theorem loopD_brk {c : Nat} {x : Int32} {v : PS → PS} (h1 : c ≠ 42) {i : Nat} {e a : Int32} {r : RT} : ∀ f, loopD tk sf c x v f (i, true, e, a, r) = (i, true, e, a, r)
  | 0 => rfl
  | f + 1 => by rw [loopD, show nowC tk (i, true, e, a, r) = 42 from rfl, if_neg h1.symm]
theorem fro_prod {v : PS → PS} (h : Fro v) : Fro (prodC tk sf v) := fun i a r => by
  obtain ⟨r1, e1⟩ := h i a r
  exact ⟨r1, by rw [prodC, e1, loopC_brk (by decide) (by decide)]⟩
theorem fro_sum {v : PS → PS} (h : Fro v) : Fro (sumC tk sf v) := fun i a r => by
  obtain ⟨r1, e1⟩ := fro_prod (tk := tk) (sf := sf) h i a r
  exact ⟨r1, by rw [sumC, e1, loopC_brk (by decide) (by decide)]⟩
theorem fro_both {v : PS → PS} (h : Fro v) : Fro (bothC tk sf v) := fun i a r => by
  obtain ⟨r1, e1⟩ := h i a r
  exact ⟨r1, by rw [bothC, e1, loopD_brk (by decide)]⟩
theorem fro_test {v : PS → PS} (h : Fro v) : Fro (testC tk sf v) := fun i a r => by
  obtain ⟨r1, e1⟩ := fro_both (tk := tk) (sf := sf) h i a r
  exact ⟨r1, by rw [testC, e1, loopD_brk (by decide)]⟩
theorem fro_valB {d : Nat} {v : PS → PS} : Fro (valB tk sf vf nm m d v) := fun i a r => by
  rw [valB, fro_now]
  exact ⟨r, rfl⟩
theorem fro_val : ∀ r d, Fro (valC tk sf vf nm m r d)
  | 0, _ => fro_valB
  | _ + 1, _ => fro_valB
theorem fro_cmp {v : PS → PS} (h : Fro v) : Fro (cmpC tk sf v) := fun i a r => by
  obtain ⟨r1, e1⟩ := fro_sum (tk := tk) (sf := sf) h i a r
  exact ⟨r1, by rw [cmpC, e1, fro_now]; rfl⟩
theorem fro_sglB {d : Nat} {v u : PS → PS} (h : Fro v) : Fro (sglB tk sf vf nm m d v u) := fun i a r => by
  rw [sglB, fro_now]
  exact fro_cmp h i a r
theorem fro_sgl : ∀ r d, Fro (sglC tk sf vf nm m r d)
  | 0, d => fro_sglB (fro_val 0 d)
  | r + 1, d => fro_sglB (fro_val (r + 1) d)
theorem stepC_lt {x y z : Int32} {i s : Nat} {b : Bool} {e a : Int32} {o g j : Nat → Int32} (h : s < 400) : stepC x y z (i, b, e, a, s, o, g, j) = (i, b, e, a, s + 1, upd o s x, upd g s y, upd j s z) := by
  rw [stepC, inc, if_pos h, updC, if_pos h, updC, if_pos h, updC, if_pos h]
theorem takeC_ok {k i : Nat} {e a : Int32} {r : RT} (h : tk i = k) : takeC tk sf k (i, false, e, a, r) = (i + 1, false, e, a, r) := by
  rw [takeC, if_pos (show nw tk i false = k from h)]
theorem takeC_no {k i : Nat} {e a : Int32} {r : RT} (h : tk i ≠ k) : takeC tk sf k (i, false, e, a, r) = (i, true, 1, sf i, r) := by
  rw [takeC, if_neg (show ¬ nw tk i false = k from h)]; rfl
theorem nowC_ok {i : Nat} {e a : Int32} {r : RT} : nowC tk (i, false, e, a, r) = tk i := rfl
theorem hse_ok {i : Nat} {e a : Int32} {r : RT} (h : tk i = 39) : hseC tk vf nm m (i, false, e, a, r) = hnF nm (vf i) m := by
  rw [hseC, valT, if_pos (show nw tk i false = 39 from h)]
theorem knw_ok {i : Nat} {e a : Int32} {r : RT} (h : tk i = 39) : knwC tk sf vf nm m (i, false, e, a, r) = (i + 1, false, (tlK sf vf nm m i (e, a)).1, (tlK sf vf nm m i (e, a)).2, r) := by
  rw [knwC, hse_ok h, takeC_ok h, tlK]
  split <;> rfl
theorem knw_no {i : Nat} {e a : Int32} {r : RT} (h : tk i ≠ 39) : knwC tk sf vf nm m (i, false, e, a, r) = (i, true, 1, sf i, r) := by
  rw [knwC, takeC_no h]
  split <;> rfl
end
theorem kdT {t k : Nat} {x c : Int32} (hx : x = km t) (ht : t < 43) (hk : k < 43) (hc : c = km k) : x = c ↔ t = k :=
  ⟨fun h => km_inj ht hk (hx.symm.trans (h.trans hc)), fun h => hx.trans (h ▸ hc.symm)⟩
def Bk (q : PS) (i : Nat) (a : Int32) : Prop := ∃ r : RT, q = (i, true, 1, a, r)
section
variable {tk : Nat → Nat} {sf : Nat → Int32} {vf nm : Nat → Int64} {m : Nat} {q : PS} {i : Nat} {a : Int32}
theorem Bk.app {f : PS → PS} (h : Bk q i a) (hf : Fro f) : Bk (f q) i a := by
  obtain ⟨r, e⟩ := h
  obtain ⟨r2, e2⟩ := hf i a r
  exact ⟨r2, by rw [e, e2]⟩
theorem Bk.step {x y z : Int32} (h : Bk q i a) : Bk (stepC x y z q) i a := h.app (fro_step x y z)
theorem Bk.take {k : Nat} (h : Bk q i a) (hk : k ≠ 42) : Bk (takeC tk sf k q) i a := h.app (fro_take k hk)
theorem Bk.knw (h : Bk q i a) : Bk (knwC tk sf vf nm m q) i a := h.app fro_knw
theorem Bk.lpC {c1 c2 : Nat} {x1 x2 : Int32} {v : PS → PS} {f : Nat} (h : Bk q i a) (h1 : c1 ≠ 42) (h2 : c2 ≠ 42) : Bk (loopC tk sf c1 c2 x1 x2 v f q) i a := by
  obtain ⟨r, e⟩ := h
  exact ⟨r, by rw [e, loopC_brk h1 h2]⟩
theorem Bk.lpD {c : Nat} {x : Int32} {v : PS → PS} {f : Nat} (h : Bk q i a) (h1 : c ≠ 42) : Bk (loopD tk sf c x v f q) i a := by
  obtain ⟨r, e⟩ := h
  exact ⟨r, by rw [e, loopD_brk h1]⟩
theorem Bk.no {k : Nat} {e b : Int32} {r : RT} (h : tk i ≠ k) : Bk (takeC tk sf k (i, false, e, b, r)) i (sf i) := ⟨r, takeC_no h⟩
theorem Bk.kno {e b : Int32} {r : RT} (h : tk i ≠ 39) : Bk (knwC tk sf vf nm m (i, false, e, b, r)) i (sf i) := ⟨r, knw_no h⟩
theorem Bk.fail {e b : Int32} {r : RT} : Bk (failC sf (i, false, e, b, r)) i (sf i) := ⟨r, rfl⟩
theorem deep_ok {k d : Nat} {e b : Int32} {r : RT} (hd : d < 8) (h : tk i = k) : deepC tk sf k d (i, false, e, b, r) = (i + 1, false, e, b, r) := by
  rw [deepC, if_pos hd, takeC_ok h]
theorem Bk.deep {k d : Nat} {e b : Int32} {r : RT} (h : d = 8 ∨ tk i ≠ k) : Bk (deepC tk sf k d (i, false, e, b, r)) i (sf i) := by
  rw [deepC]
  rcases Nat.lt_or_ge d 8 with c | c
  · rw [if_pos c]
    exact Bk.no (h.resolve_left (by omega))
  · rw [if_neg (by omega)]
    exact Bk.fail
theorem Bk.brk (h : Bk q i a) : brkC q = true := by
  obtain ⟨r, e⟩ := h
  rw [e]; rfl
theorem Bk.now (h : Bk q i a) : nowC tk q = 42 := by
  obtain ⟨r, e⟩ := h
  rw [e]; rfl
theorem now_ne {c k : Nat} {e b : Int32} {r : RT} (t : tk i = k) (h : k ≠ c) : ¬ nowC tk (i, false, e, b, r) = c := fun x => h (t.symm.trans x)
theorem now_nn {c : Nat} {e b : Int32} {r : RT} (t : tk i ≠ c) : ¬ nowC tk (i, false, e, b, r) = c := t
theorem now_eq {c : Nat} {e b : Int32} {r : RT} (t : tk i = c) : nowC tk (i, false, e, b, r) = c := t
theorem brk_f {e b : Int32} {r : RT} : ¬ brkC (i, false, e, b, r) = true := Bool.false_ne_true
end
section
variable {tk : Nat → Nat} {sf : Nat → Int32} {vf nm : Nat → Int64} {m : Nat} {q : PS} {f : Nat} {v : PS → PS} {x1 x2 : Int32} {c1 c2 : Nat}
theorem loopC_go1 (hf : 0 < f) (h : nowC tk q = c1) : loopC tk sf c1 c2 x1 x2 v f q = loopC tk sf c1 c2 x1 x2 v (f - 1) (stepC x1 0 0 (v (takeC tk sf c1 q))) := by
  obtain ⟨n, rfl⟩ : ∃ n, f = n + 1 := ⟨f - 1, by omega⟩
  rw [loopC, if_pos h, h]; rfl
theorem loopC_go2 (hf : 0 < f) (h : nowC tk q = c2) (hc : c2 ≠ c1) : loopC tk sf c1 c2 x1 x2 v f q = loopC tk sf c1 c2 x1 x2 v (f - 1) (stepC x2 0 0 (v (takeC tk sf c2 q))) := by
  obtain ⟨n, rfl⟩ : ∃ n, f = n + 1 := ⟨f - 1, by omega⟩
  rw [loopC, if_neg (fun z => hc (h.symm.trans z)), if_pos h, h]; rfl
theorem loopC_out (h1 : ¬ nowC tk q = c1) (h2 : ¬ nowC tk q = c2) : loopC tk sf c1 c2 x1 x2 v f q = q := by
  cases f with
  | zero => rfl
  | succ n => rw [loopC, if_neg h1, if_neg h2]
theorem loopD_go1 (hf : 0 < f) (h : nowC tk q = c1) : loopD tk sf c1 x1 v f q = loopD tk sf c1 x1 v (f - 1) (stepC x1 0 0 (v (takeC tk sf c1 q))) := by
  obtain ⟨n, rfl⟩ : ∃ n, f = n + 1 := ⟨f - 1, by omega⟩
  rw [loopD, if_pos h]; rfl
theorem loopD_out (h1 : ¬ nowC tk q = c1) : loopD tk sf c1 x1 v f q = q := by
  cases f with
  | zero => rfl
  | succ n => rw [loopD, if_neg h1]
end
/-- shades, dark -/
def shdC (tk : Nat → Nat) (sf : Nat → Int32) (vf nm : Nat → Int64) (m : Nat) (q : PS) : PS := stepC 6 (hseC tk vf nm m (takeC tk sf 17 q)) (hseC tk vf nm m (knwC tk sf vf nm m (takeC tk sf 17 q))) (knwC tk sf vf nm m (knwC tk sf vf nm m (takeC tk sf 17 q)))
def drkC (tk : Nat → Nat) (sf : Nat → Int32) (vf nm : Nat → Int64) (m : Nat) (q : PS) : PS := stepC 7 (hseC tk vf nm m (takeC tk sf 18 q)) 0 (knwC tk sf vf nm m (takeC tk sf 18 q))
theorem in3 {x : Int32} (h : inX x 12 14 = true) : x = 12 ∨ x = 13 ∨ x = 14 := by
  simp [inX] at h
  have h1 := Int32.le_iff_toInt_le.mp h.1
  have h2 := Int32.le_iff_toInt_le.mp h.2
  have e1 : (12 : Int32).toInt = 12 := rfl
  have e2 : (14 : Int32).toInt = 14 := rfl
  rw [e1] at h1
  rw [e2] at h2
  have : x.toInt = 12 ∨ x.toInt = 13 ∨ x.toInt = 14 := by omega
  rcases this with q | q | q
  · exact Or.inl (Int32.toInt_inj.mp q)
  · exact Or.inr (Or.inl (Int32.toInt_inj.mp q))
  · exact Or.inr (Or.inr (Int32.toInt_inj.mp q))
/-- tokens and steps in a row -/
def Gs (Lt : Nat) (tq : Nat → Nat) (fr : Nat → Int32) (va nm : Nat → Int64) (m : Nat) (i s : Nat) (me od wi al : Nat → Int32) (e a : Int32) (o g j : Nat → Int32) (i2 s2 : Nat) (me2 od2 wi2 al2 : Nat → Int32) (e2 a2 : Int32) (o2 g2 j2 : Nat → Int32) : Prop :=
  (i ≤ i2) ∧ (i2 ≤ Lt) ∧ (s ≤ s2) ∧ (s2 + i ≤ s + i2) ∧ (∀ k, k < i ∨ i2 ≤ k → me2 k = me k) ∧ (∀ k, i ≤ k → k < i2 → me2 k = 0 ∨ (me2 k = 6 ∧ tq k = 39)) ∧ (∀ r, r < s → od2 r = od r ∧ wi2 r = wi r ∧ al2 r = al r ∧ o2 r = o r ∧ g2 r = g r ∧ j2 r = j r) ∧ (∀ r, s ≤ r → r < s2 → RowM va nm m tq me2 i2 (od2 r) (wi2 r) (al2 r) (o2 r) (g2 r) (j2 r)) ∧ ((e2, a2) = tlN fr va nm m me2 i (e, a) (i2 - i))
theorem Gs.il {Lt : Nat} {tq : Nat → Nat} {fr : Nat → Int32} {va nm : Nat → Int64} {m : Nat} {i s : Nat} {me od wi al : Nat → Int32} {e a : Int32} {o g j : Nat → Int32} {i2 s2 : Nat} {me2 od2 wi2 al2 : Nat → Int32} {e2 a2 : Int32} {o2 g2 j2 : Nat → Int32} (h : Gs Lt tq fr va nm m i s me od wi al e a o g j i2 s2 me2 od2 wi2 al2 e2 a2 o2 g2 j2) : i ≤ i2 := h.1
theorem Gs.iL {Lt : Nat} {tq : Nat → Nat} {fr : Nat → Int32} {va nm : Nat → Int64} {m : Nat} {i s : Nat} {me od wi al : Nat → Int32} {e a : Int32} {o g j : Nat → Int32} {i2 s2 : Nat} {me2 od2 wi2 al2 : Nat → Int32} {e2 a2 : Int32} {o2 g2 j2 : Nat → Int32} (h : Gs Lt tq fr va nm m i s me od wi al e a o g j i2 s2 me2 od2 wi2 al2 e2 a2 o2 g2 j2) : i2 ≤ Lt := h.2.1
theorem Gs.sl {Lt : Nat} {tq : Nat → Nat} {fr : Nat → Int32} {va nm : Nat → Int64} {m : Nat} {i s : Nat} {me od wi al : Nat → Int32} {e a : Int32} {o g j : Nat → Int32} {i2 s2 : Nat} {me2 od2 wi2 al2 : Nat → Int32} {e2 a2 : Int32} {o2 g2 j2 : Nat → Int32} (h : Gs Lt tq fr va nm m i s me od wi al e a o g j i2 s2 me2 od2 wi2 al2 e2 a2 o2 g2 j2) : s ≤ s2 := h.2.2.1
theorem Gs.ss {Lt : Nat} {tq : Nat → Nat} {fr : Nat → Int32} {va nm : Nat → Int64} {m : Nat} {i s : Nat} {me od wi al : Nat → Int32} {e a : Int32} {o g j : Nat → Int32} {i2 s2 : Nat} {me2 od2 wi2 al2 : Nat → Int32} {e2 a2 : Int32} {o2 g2 j2 : Nat → Int32} (h : Gs Lt tq fr va nm m i s me od wi al e a o g j i2 s2 me2 od2 wi2 al2 e2 a2 o2 g2 j2) : s2 + i ≤ s + i2 := h.2.2.2.1
theorem Gs.fm {Lt : Nat} {tq : Nat → Nat} {fr : Nat → Int32} {va nm : Nat → Int64} {m : Nat} {i s : Nat} {me od wi al : Nat → Int32} {e a : Int32} {o g j : Nat → Int32} {i2 s2 : Nat} {me2 od2 wi2 al2 : Nat → Int32} {e2 a2 : Int32} {o2 g2 j2 : Nat → Int32} (h : Gs Lt tq fr va nm m i s me od wi al e a o g j i2 s2 me2 od2 wi2 al2 e2 a2 o2 g2 j2) : ∀ k, k < i ∨ i2 ≤ k → me2 k = me k := h.2.2.2.2.1
theorem Gs.mk {Lt : Nat} {tq : Nat → Nat} {fr : Nat → Int32} {va nm : Nat → Int64} {m : Nat} {i s : Nat} {me od wi al : Nat → Int32} {e a : Int32} {o g j : Nat → Int32} {i2 s2 : Nat} {me2 od2 wi2 al2 : Nat → Int32} {e2 a2 : Int32} {o2 g2 j2 : Nat → Int32} (h : Gs Lt tq fr va nm m i s me od wi al e a o g j i2 s2 me2 od2 wi2 al2 e2 a2 o2 g2 j2) : ∀ k, i ≤ k → k < i2 → me2 k = 0 ∨ (me2 k = 6 ∧ tq k = 39) := h.2.2.2.2.2.1
theorem Gs.fs {Lt : Nat} {tq : Nat → Nat} {fr : Nat → Int32} {va nm : Nat → Int64} {m : Nat} {i s : Nat} {me od wi al : Nat → Int32} {e a : Int32} {o g j : Nat → Int32} {i2 s2 : Nat} {me2 od2 wi2 al2 : Nat → Int32} {e2 a2 : Int32} {o2 g2 j2 : Nat → Int32} (h : Gs Lt tq fr va nm m i s me od wi al e a o g j i2 s2 me2 od2 wi2 al2 e2 a2 o2 g2 j2) : ∀ r, r < s → od2 r = od r ∧ wi2 r = wi r ∧ al2 r = al r ∧ o2 r = o r ∧ g2 r = g r ∧ j2 r = j r := h.2.2.2.2.2.2.1
theorem Gs.rw_ {Lt : Nat} {tq : Nat → Nat} {fr : Nat → Int32} {va nm : Nat → Int64} {m : Nat} {i s : Nat} {me od wi al : Nat → Int32} {e a : Int32} {o g j : Nat → Int32} {i2 s2 : Nat} {me2 od2 wi2 al2 : Nat → Int32} {e2 a2 : Int32} {o2 g2 j2 : Nat → Int32} (h : Gs Lt tq fr va nm m i s me od wi al e a o g j i2 s2 me2 od2 wi2 al2 e2 a2 o2 g2 j2) : ∀ r, s ≤ r → r < s2 → RowM va nm m tq me2 i2 (od2 r) (wi2 r) (al2 r) (o2 r) (g2 r) (j2 r) := h.2.2.2.2.2.2.2.1
theorem Gs.tl {Lt : Nat} {tq : Nat → Nat} {fr : Nat → Int32} {va nm : Nat → Int64} {m : Nat} {i s : Nat} {me od wi al : Nat → Int32} {e a : Int32} {o g j : Nat → Int32} {i2 s2 : Nat} {me2 od2 wi2 al2 : Nat → Int32} {e2 a2 : Int32} {o2 g2 j2 : Nat → Int32} (h : Gs Lt tq fr va nm m i s me od wi al e a o g j i2 s2 me2 od2 wi2 al2 e2 a2 o2 g2 j2) : (e2, a2) = tlN fr va nm m me2 i (e, a) (i2 - i) := h.2.2.2.2.2.2.2.2
theorem Gs.ofs {Lt : Nat} {tq : Nat → Nat} {fr : Nat → Int32} {va nm : Nat → Int64} {m : Nat} {i s : Nat} {me od wi al : Nat → Int32} {e a : Int32} {o g j : Nat → Int32} {i2 s2 : Nat} {me2 od2 wi2 al2 : Nat → Int32} {e2 a2 : Int32} {o2 g2 j2 : Nat → Int32} (h : (i ≤ i2) ∧ (i2 ≤ Lt) ∧ (s ≤ s2) ∧ (s2 + i ≤ s + i2) ∧ (∀ k, k < i ∨ i2 ≤ k → me2 k = me k) ∧ (∀ k, i ≤ k → k < i2 → me2 k = 0 ∨ (me2 k = 6 ∧ tq k = 39)) ∧ (∀ r, r < s → od2 r = od r ∧ wi2 r = wi r ∧ al2 r = al r ∧ o2 r = o r ∧ g2 r = g r ∧ j2 r = j r) ∧ (∀ r, s ≤ r → r < s2 → RowM va nm m tq me2 i2 (od2 r) (wi2 r) (al2 r) (o2 r) (g2 r) (j2 r)) ∧ ((e2, a2) = tlN fr va nm m me2 i (e, a) (i2 - i))) : Gs Lt tq fr va nm m i s me od wi al e a o g j i2 s2 me2 od2 wi2 al2 e2 a2 o2 g2 j2 := h
section
variable {Lt : Nat} {tq : Nat → Nat} {fr : Nat → Int32} {va nm : Nat → Int64} {m : Nat} {tt : Bool} {i s : Nat} {me od wi al : Nat → Int32} {e a : Int32} {o g j : Nat → Int32} {i2 s2 : Nat} {me2 od2 wi2 al2 : Nat → Int32} {e2 a2 : Int32} {o2 g2 j2 : Nat → Int32} {i3 s3 : Nat} {me3 od3 wi3 al3 : Nat → Int32} {e3 a3 : Int32} {o3 g3 j3 : Nat → Int32}
theorem Gs.nil (h : i ≤ Lt) : Gs Lt tq fr va nm m i s me od wi al e a o g j i s me od wi al e a o g j :=
  Gs.ofs ⟨Nat.le_refl _, h, Nat.le_refl _, by omega, fun _ _ => rfl, fun k a b => by omega, fun _ _ => ⟨rfl, rfl, rfl, rfl, rfl, rfl⟩, fun r a b => by omega, by rw [Nat.sub_self]; rfl⟩
theorem Gs.tok (h : Gs Lt tq fr va nm m i s me od wi al e a o g j i2 s2 me2 od2 wi2 al2 e2 a2 o2 g2 j2) (hl : i2 < Lt) (hm : me i2 = 0) : Gs Lt tq fr va nm m i s me od wi al e a o g j (i2 + 1) s2 me2 od2 wi2 al2 e2 a2 o2 g2 j2 := by
  have h1 := h.il
  have h2 := h.ss
  have hz := (h.fm i2 (by omega)).trans hm
  refine Gs.ofs ⟨by omega, hl, h.sl, by omega, fun k hk => h.fm k (by omega), fun k a b => ?_, h.fs, fun r a b => (h.rw_ r a b).up (by omega) (fun _ _ => rfl), ?_⟩
  · rcases Nat.lt_or_ge k i2 with c | c
    · exact h.mk k a c
    · exact Or.inl ((congrArg me2 (show k = i2 by omega)).trans hz)
  · rw [h.tl, show i2 + 1 - i = (i2 - i) + 1 by omega, tlN, tlS, if_neg]
    rintro ⟨h1, -⟩
    rw [show i + (i2 - i) = i2 by omega, hz] at h1
    exact absurd h1 (by decide)
theorem Gs.app (h : Gs Lt tq fr va nm m i s me od wi al e a o g j i2 s2 me2 od2 wi2 al2 e2 a2 o2 g2 j2) (h' : Gd Lt tq fr va nm m tt i2 s2 me2 od2 wi2 al2 e2 a2 o2 g2 j2 i3 s3 me3 od3 wi3 al3 e3 a3 o3 g3 j3) : Gs Lt tq fr va nm m i s me od wi al e a o g j i3 s3 me3 od3 wi3 al3 e3 a3 o3 g3 j3 := by
  have h1 := h.il
  have h2 := h.ss
  have h3 := h.sl
  have h1' := h'.il
  have h2' := h'.ss
  have h3' := h'.sl
  have hlow : ∀ k, k < i2 → me3 k = me2 k := fun k hk => h'.fm k (Or.inl hk)
  refine Gs.ofs ⟨by omega, h'.iL, by omega, by omega, fun k hk => ?_, fun k a b => ?_, fun r hr => ?_, fun r a b => ?_, ?_⟩
  · exact (h'.fm k (by omega)).trans (h.fm k (by omega))
  · rcases Nat.lt_or_ge k i2 with q | q
    · rw [hlow k q]; exact h.mk k a q
    · exact h'.mk k q b
  · obtain ⟨q1, q2, q3, q4, q5, q6⟩ := h'.fs r (by omega)
    rw [q1, q2, q3, q4, q5, q6]
    exact h.fs r hr
  · rcases Nat.lt_or_ge r s2 with q' | q'
    · obtain ⟨q1, q2, q3, q4, q5, q6⟩ := h'.fs r q'
      rw [q1, q2, q3, q4, q5, q6]
      exact (h.rw_ r a q').up (by omega) hlow
    · exact h'.rw_ r q' b
  · rw [h'.tl, h.tl, show i3 - i = (i2 - i) + (i3 - i2) by omega, tlN_add, show i + (i2 - i) = i2 by omega]
    rw [show tlN fr va nm m me3 i (e, a) (i2 - i) = tlN fr va nm m me2 i (e, a) (i2 - i) from tlN_cong (fun k a b => hlow k (by omega))]
end
theorem nI_dec {d : Nat} : nI (d + 1) - 1 = nI d := by
  rw [← nI_add]
  exact Int32.add_sub_cancel _ _

