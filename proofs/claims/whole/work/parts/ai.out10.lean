/-- cells that are no more spoken of -/
theorem J_cut {Z : GZ} {X : CX} {R : Room} {nL : Nat} {Q : State → Prop} {rc rs pc : Nat} {lv : List (Nat × Value)} {st : List Value} {ws : va_W} (wb : va_W) (k : Jd Z X R nL Q rc rs pc lv st ws) : Jd Z X R nL Q rc rs pc lv st (ws ++ wb) :=
  fun ls H locs cells slots hc hs hl hP hD hS => k ls H locs cells slots hc hs hl (blk_P (a := []) (b := wb) hP) (blk_D (a := []) (b := wb) hD) hS
/-- a row of six, of five numbers -/
def wA6 (Z : GZ) (a : Nat → Nat) (f : Nat → Int32) : va_W := [(a 0, .inl (zA Z 0, 6, .inl f))]
def wA5 (Z : GZ) (a : Nat → Nat) (f : Nat → Int32) : va_W := [(a 0, .inl (zA Z 0, 5, .inl f))]
def dgF (f : Nat → Int32) (d : Int64) : Nat → Int64
  | 0 => d
  | k + 1 => dgA (dgF f d k) (f k)
/-- one house's numbers, in the model -/
def dgM6 (P H F T ls ct : Nat → Int32) (a : Nat) (d : Int64) : Int64 := dgA (dgA (dgA (dgA (dgA (dgA d (P a)) (H a)) (F a)) (T a)) (ls a)) (ct a)
def dgMO (P H F T ls ct : Nat → Int32) (lt : Nat → Nat → Int32) (N : Nat) (d : Int64) : Nat → Int64
  | 0 => d
  | a + 1 => dgF (lt a) (dgM6 P H F T ls ct a (dgMO P H F T ls ct lt N d a)) N
def dgMR (g : Int32 → Int32) (d : Int64) : Nat → Int64
  | 0 => d
  | j + 1 => dgA (dgMR g d j) (g (nI (6 + j)))
theorem dgMR_s {g : Int32 → Int32} {d : Int64} {k : Nat} (hk : 6 ≤ k) : dgMR g d (k + 1 - 6) = dgA (dgMR g d (k - 6)) (g (nI k)) := by
  rw [show k + 1 - 6 = (k - 6) + 1 by omega, dgMR, show 6 + (k - 6) = k by omega]
theorem k4d : ∀ k, k < 20 → nI k / 4 = nI (k / 4) := by decide
theorem k4m : ∀ k, k < 20 → nI k - nI k / 4 * 4 = nI (k % 4) := by decide
/-- the model's tape, k bytes on -/
def fdM (tp five : Nat → Int32) (s : Nat) : Nat → Nat → Int32
  | 0 => tp
  | k + 1 => upd (fdM tp five s k) (s + k) ((five (k / 4) >>> ((24 - 8 * nI (k % 4)) &&& 31)) &&& 255)

