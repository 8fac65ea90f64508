theorem du_zero {N u : Nat} {P H F T op f1 f2 l0 : Nat → Int32} {hh c0 c1 c2 c3 : Nat → Nat} {p h f t : Nat → Nat} {dy ca : Int32} (e : EqS N P H F T p h f t) (ok : SnOk N p h f t) : duX N P op f1 f2 l0 hh c0 c1 c2 c3 u ((H, F, T), ca, dy) = 0 ↔ alN p h f t N = 0 := by
  have hal := alN_le p h f t ok.1
  have e0 : lgD N P (dyN N P op f1 f2 l0 hh c0 c1 c2 c3 u ((H, F, T), ca, dy) 0) = nI (alN p h f t N) := al_b e ok
  unfold duX
  rcases du_ok (f := fun k => lgD N P (dyN N P op f1 f2 l0 hh c0 c1 c2 c3 u ((H, F, T), ca, dy) k)) (n := 31) with ⟨k, hk, h1, h2, h3⟩ | ⟨h1, h2⟩
  · rw [h1]
    constructor
    · intro q
      have k0 := (nI_eq (a := k) (b := 0) (by omega) (by decide)).mp q
      subst k0
      have q2 := e0.symm.trans h2
      exact (nI_eq (a := alN p h f t N) (b := 0) (by omega) (by decide)).mp q2
    · intro q
      rcases Nat.eq_zero_or_pos k with z | z
      · rw [z]; rfl
      · exact absurd (e0.trans (by rw [q]; rfl)) (h3 0 z)
  · rw [h1]
    constructor
    · intro q
      exact absurd q (by decide)
    · intro q
      exact absurd (e0.trans (by rw [q]; rfl)) (h2 0 (by decide))
