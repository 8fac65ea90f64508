theorem j3_nI {i k : Nat} (hi : i < 16) (hk : k < 3) : ((3 : Int32) * nI i + nI k).toNatClampNeg = 3 * i + k := by
  rw [show (3 : Int32) = nI 3 from rfl, pk_mul, nI_add, nI_clamp (by omega)]
theorem j3_in {i k : Nat} (hi : i < 16) (hk : k < 3) : vp_in ((3 : Int32) * nI i + nI k) 48 := by
  rw [show (3 : Int32) = nI 3 from rfl, pk_mul, nI_add]
  exact vp_in_nI (by omega) (by decide)
theorem upd_e {f : Nat → Int32} {k j : Nat} {x : Int32} (h : j = k) : upd f k x j = x := by rw [h, upd_s]
theorem min15 {u y : Nat} (hu : u < 1000) (hy : y = min u 15) : (if nI u < 15 then nI u else 15) = nI y := by
  rcases Nat.lt_or_ge u 15 with c | c
  · have h1 : nI u < (15 : Int32) := nI_lt (a := u) (b := 15) c (by decide)
    rw [if_pos h1, show y = u by omega]
  · have h1 : ¬ nI u < (15 : Int32) := nI_nlt (a := u) (b := 15) c (by omega)
    rw [if_neg h1, show y = 15 by omega]; rfl
/-- a law's parts: the class's numbers z0 z2 z3 z4 z5, the plan's row y -/
def LawOk (o dz bg en : Nat → Int32) (S y : Nat) (z0 z2 z3 z4 z5 : Int32) : Prop :=
  ∃ s0 s1 s2 s3 : Nat, s0 ≤ s1 ∧ s1 ≤ s2 ∧ s2 ≤ s3 ∧ s3 ≤ S ∧ z2 = nI s0 ∧ z3 = nI s1 ∧ z4 = nI s2 ∧ z5 = nI s3 ∧ bg (3 * y) = nI s2 ∧ en (3 * y) = nI s3 ∧ (s2 = s3 ∨ Seg o true s2 s3) ∧
    ((z0 = 0 ∧ dz y = 4 ∧ bg (3 * y + 1) = nI s0 ∧ en (3 * y + 1) = nI s1 ∧ bg (3 * y + 2) = nI s1 ∧ en (3 * y + 2) = nI s2 ∧ Seg o false s0 s1 ∧ Seg o false s1 s2) ∨
     (z0 = 1 ∧ dz y = 7) ∨
     (z0 = 2 ∧ dz y = 8 ∧ bg (3 * y + 1) = nI s0 ∧ en (3 * y + 1) = nI s1 ∧ Seg o false s0 s1))
def lwT (fr : Nat → Int32) (i u : Nat) (p : Int32 × Int32) : Int32 × Int32 := if u < 16 then p else (if p.1 = 0 then 4 else p.1, if p.1 = 0 then fr i else p.2)
section
variable {tk : Nat → Nat} {sf : Nat → Int32} {vf nm : Nat → Int64} {m : Nat} {q : PS} {i u : Nat} {a : Int32}
theorem lawT_ok {e b : Int32} {r : RT} (h : tk i = 3) : lawT tk sf u (i, false, e, b, r) = (i + 1, false, (lwT sf i u (e, b)).1, (lwT sf i u (e, b)).2, r) := by
  rw [lawT, takeC_ok h, lwT]
  split <;> rfl
theorem lawE_w {X : PS} {z0 z1 z2 z3 : Int32} : lawE tk sf vf nm m (X, z0, z1, z2, z3) = (lawW tk sf vf nm m X, z0, z1, z2, z3, nI (psS X), nI (psS (lawW tk sf vf nm m X))) := rfl
theorem law1 : (lawC tk sf vf nm m u q).1 = lawW tk sf vf nm m (ordC tk sf vf nm m (lawT tk sf u q)).1 := rfl
theorem fro_lawW : Fro (lawW tk sf vf nm m) := fun i a r => by
  rw [lawW, fro_now]
  exact ⟨r, rfl⟩
theorem Bk.lawW (h : Bk q i a) : Bk (lawW tk sf vf nm m q) i a := h.app fro_lawW
theorem lawT_df {q : PS} : lawT tk sf u q = if u < 16 then takeC tk sf 3 q else tellC 4 (sf q.1) (takeC tk sf 3 q) := rfl
theorem Bk.lawT (h : Bk q i a) : Bk (lawT tk sf u q) i a := by
  rw [lawT_df]
  split
  · exact h.take (by decide)
  · exact (h.take (by decide)).app (fro_tell _ _)
theorem Bk.sum0 (h : Bk q i a) : Bk (sumC tk sf (valC tk sf vf nm m 8 0) q) i a := h.app (fro_sum (fro_val 8 0))
theorem Bk.ord (h : Bk q i a) : Bk (ordC tk sf vf nm m q).1 i a := by
  rw [ordC, h.now]
  exact ((h.take (k := 8) (by decide)).knw.take (by decide)).sum0
end
/-- what a law's line is, from token i on: behind its name's token the parts -/
def LawG (Lt : Nat) (tq : Nat → Nat) (fr : Nat → Int32) (va nm : Nat → Int64) (m : Nat) (u y i s : Nat) (me od wi al dz bg en : Nat → Int32) (e a : Int32) (o g j : Nat → Int32) (i2 s2 : Nat) (me2 od2 wi2 al2 dz2 bg2 en2 : Nat → Int32) (e2 a2 : Int32) (o2 g2 j2 : Nat → Int32) (z0 z1 z2 z3 z4 z5 : Int32) : Prop :=
  tq (i + 1 + 1) = 39 ∧ z1 = hnF nm (va (i + 1 + 1)) m ∧ Gs Lt tq fr va nm m (i + 1 + 1 + 1) s (upd (upd me i 4) (i + 1 + 1) 5) od wi al (tlK fr va nm m (i + 1 + 1) (lwT fr i u (e, a))).1 (tlK fr va nm m (i + 1 + 1) (lwT fr i u (e, a))).2 o g j i2 s2 me2 od2 wi2 al2 e2 a2 o2 g2 j2 ∧
  LawOk o2 dz2 bg2 en2 s2 y z0 z2 z3 z4 z5 ∧ (∀ k, k ≠ y → dz2 k = dz k) ∧ (∀ k, k < 3 * y → bg2 k = bg k ∧ en2 k = en k)

