/-- the bits 6 .. 18 -/
def bsB (y : Nat → Bool) : Nat → Int32
  | 0 => 0
  | j + 1 => bsB y j ||| (b2i (y j) <<< (nI (6 + j) &&& 31))
theorem bs_B {v : Int32 → Bool} : ∀ n, bsM v n = bsB (fun j => v (nI (6 + j))) n
  | 0 => rfl
  | n + 1 => by rw [bsM, bsB, bs_B n]
def bsG (a b c d e f g h i j k l m : Bool) : Int32 := bsB (fun n => match n with | 0 => a | 1 => b | 2 => c | 3 => d | 4 => e | 5 => f | 6 => g | 7 => h | 8 => i | 9 => j | 10 => k | 11 => l | _ => m) 13
def bsP (x : Int32) : Bool := (decide (bitC x = 0) == decide (x = 0)) && (decide (0 ≤ bitC x) && decide (bitC x ≤ 13))
theorem bsG_ok : ∀ a b c d e f g h i j k l m : Bool, bsP (bsG a b c d e f g h i j k l m) = true := by decide +kernel
theorem bsB_13 (y : Nat → Bool) : bsB y 13 = bsG (y 0) (y 1) (y 2) (y 3) (y 4) (y 5) (y 6) (y 7) (y 8) (y 9) (y 10) (y 11) (y 12) := rfl
theorem bsB_all (y : Nat → Bool) : (bitC (bsB y 13) = 0 ↔ bsB y 13 = 0) ∧ 0 ≤ bitC (bsB y 13) ∧ bitC (bsB y 13) ≤ 13 := by
  have h := bsG_ok (y 0) (y 1) (y 2) (y 3) (y 4) (y 5) (y 6) (y 7) (y 8) (y 9) (y 10) (y 11) (y 12)
  rw [← bsB_13] at h
  simp only [bsP, Bool.and_eq_true, beq_iff_eq, decide_eq_true_eq, decide_eq_decide] at h
  exact h
theorem bsB_ok (y : Nat → Bool) : (bitC (bsB y 13) = 0 ↔ bsB y 13 = 0) ∧ 0 ≤ bitC (bsB y 13) := ⟨(bsB_all y).1, (bsB_all y).2.1⟩
theorem bsB_nat (y : Nat → Bool) : ∃ t, t ≤ 13 ∧ bitC (bsB y 13) = nI t := by
  obtain ⟨-, h1, h2⟩ := bsB_all y
  have h3 := Int32.le_iff_toInt_le.mp h1
  have h4 := Int32.le_iff_toInt_le.mp h2
  have e0 : (0 : Int32).toInt = 0 := rfl
  have e13 : (13 : Int32).toInt = 13 := rfl
  refine ⟨(bitC (bsB y 13)).toInt.toNat, by omega, Int32.toInt_inj.mp ?_⟩
  rw [nI_toInt (by omega)]; omega
theorem or_b2i (p q : Bool) (k : Int32) : (b2i p <<< k) ||| (b2i q <<< k) = b2i (p || q) <<< k := by
  cases p <;> cases q <;> simp [b2i]
theorem or_4 (a b c d : Int32) : (a ||| b) ||| (c ||| d) = (a ||| c) ||| (b ||| d) := by
  rw [Int32.or_assoc, ← Int32.or_assoc b c d, Int32.or_comm b c, Int32.or_assoc c b d, ← Int32.or_assoc]
theorem bsB_or (y z : Nat → Bool) : ∀ n, bsB y n ||| bsB z n = bsB (fun j => y j || z j) n
  | 0 => by rw [bsB, bsB, bsB, Int32.or_self]
  | n + 1 => by rw [bsB, bsB, bsB, ← bsB_or y z n, or_4, or_b2i]
theorem or_bs {f : Nat → Int32} : ∀ {n : Nat}, (∀ i, i < n → ∃ y, f i = bsB y 13) → ∃ y, orN f n = bsB y 13
  | 0, _ => ⟨fun _ => false, by rw [orN]; decide⟩
  | n + 1, h => by
    obtain ⟨y, hy⟩ := or_bs (n := n) (fun i hi => h i (by omega))
    obtain ⟨z, hz⟩ := h n (by omega)
    exact ⟨_, by rw [orN, hy, hz, bsB_or]⟩
theorem pos_ne {x : Int32} (h : 0 ≤ x) : 0 < x ↔ ¬ x = 0 := by
  constructor
  · intro a e; rw [e] at a; exact Int32.lt_irrefl a
  · intro a
    rcases Int32.lt_or_eq_of_le h with q | q
    · exact q
    · exact absurd q.symm a

