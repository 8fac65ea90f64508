theorem J_i2d {Z : GZ} {X : CX} {R : Room} {nL : Nat} {Q : State → Prop} {rc rs pc nx : Nat} {lv : List (Nat × Value)} {st : List Value} {ws : va_W} {cc : ByteArray} {own : String} {x : Int32} (C : Cx Z X cc nL own) (d : dI cc pc (.i2d) 1 nx)  (k : Jd Z X R nL Q rc rs nx lv (.double (FP.i2d x) :: st) ws) : Jd Z X R nL Q rc rs pc lv (.int x :: st) ws := by
  obtain ⟨d, rfl⟩ := d
  intro ls H locs cells slots hc hs hl hP hD hS
  exact lv_i2d C.1 C.2.1 d  (k ls H locs cells slots hc hs hl hP hD hS)
theorem J_dconst0 {Z : GZ} {X : CX} {R : Room} {nL : Nat} {Q : State → Prop} {rc rs pc nx : Nat} {lv : List (Nat × Value)} {st : List Value} {ws : va_W} {cc : ByteArray} {own : String}  (C : Cx Z X cc nL own) (d : dI cc pc (.dconst 0) 1 nx)  (k : Jd Z X R nL Q rc rs nx lv (.double FP.dconst0 :: st) ws) : Jd Z X R nL Q rc rs pc lv (st) ws := by
  obtain ⟨d, rfl⟩ := d
  intro ls H locs cells slots hc hs hl hP hD hS
  exact lv_dconst0 C.1 C.2.1 d  (k ls H locs cells slots hc hs hl hP hD hS)
theorem J_ddiv {Z : GZ} {X : CX} {R : Room} {nL : Nat} {Q : State → Prop} {rc rs pc nx : Nat} {lv : List (Nat × Value)} {st : List Value} {ws : va_W} {cc : ByteArray} {own : String} {x y : UInt64} (C : Cx Z X cc nL own) (d : dI cc pc (.ddiv) 1 nx) (hn : vf_n64 (FP.ddiv x y)) (k : Jd Z X R nL Q rc rs nx lv (.double (FP.ddiv x y) :: st) ws) : Jd Z X R nL Q rc rs pc lv (.double y :: .double x :: st) ws := by
  obtain ⟨d, rfl⟩ := d
  intro ls H locs cells slots hc hs hl hP hD hS
  exact lv_ddiv C.1 C.2.1 d hn (k ls H locs cells slots hc hs hl hP hD hS)
theorem J_dret {Z : GZ} {X : CX} {R : Room} {nL : Nat} {K : Option Value → va_W → Prop} {rc rs pc nx : Nat} {lv : List (Nat × Value)} {ws : va_W} {cc : ByteArray} {own nm : String} {v : UInt64} (C : Cx Z X cc nL own) (E : Cr X (some .double) nm) (d : dI cc pc .dreturn 1 nx) (h : K (some (.double v)) ws) : Jd Z X R nL (QM Z X R K) rc rs pc lv [.double v] ws := by
  intro ls H locs cells slots hc hs hl hP hD hS
  refine W.widen (k := R.cells) (n := R.slots) (by omega) (by omega) ?_
  exact W.dret C.1 C.2.1 E.1 (fun t ht hW => ⟨⟨_, ws, rfl, h, by rw [ht]; exact hP, hD⟩, hS.F ht⟩) hS.2.2 d.1 (hlocks := E.2.1)
set_option maxRecDepth 100000 in
/-- a mean of hours is a number -/
theorem dm_ok : ∀ n, n < 12 → ∀ t, t < 157 → vf_n64 (FP.ddiv (FP.i2d (nI t)) (FP.i2d (nI (n + 1)))) := by
  unfold vf_n64
  decide +kernel
theorem dm_ok2 {N t : Nat} (hN : N ≤ 12) (h0 : ¬ nI N = 0) (ht : t < 157) : vf_n64 (FP.ddiv (FP.i2d (nI t)) (FP.i2d (nI N))) := by
  rcases N with _ | N
  · exact absurd rfl h0
  · exact dm_ok N (by omega) t ht
def mlX (N : Nat) (li : Int32) : UInt64 := if nI N = 0 then FP.dconst0 else FP.ddiv (FP.i2d li) (FP.i2d (nI N))
