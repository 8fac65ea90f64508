/-! The told text is of small signs. -/
def Sml (T : List Nat) : Prop := ∀ c, c ∈ T → c < 128
theorem Sml.nil : Sml [] := fun c h => by cases h
theorem Sml.app {S T : List Nat} (h1 : Sml S) (h2 : Sml T) : Sml (S ++ T) := fun c h => (List.mem_append.mp h).elim (h1 c) (h2 c)
theorem Sml.ite {c : Prop} [Decidable c] {S T : List Nat} (h1 : Sml S) (h2 : Sml T) : Sml (if c then S else T) := by
  by_cases h : c
  · rw [if_pos h]; exact h1
  · rw [if_neg h]; exact h2
theorem Sml.getD {T : List Nat} (h : Sml T) (i : Nat) : T.getD i 32 < 128 := by
  rw [List.getD_eq_getElem?_getD]
  cases e : T[i]? with
  | none => decide
  | some c => exact h c (List.mem_of_getElem? e)
theorem cTx_sml : ∀ j, Sml (cTx j) := by
  intro j
  by_cases h : j < 43
  · have key : ∀ j, j < 43 → ∀ c ∈ cTx j, c < 128 := by decide +kernel
    exact key j h
  · have e : cTx j = [] := by
      have hl : wByt.length = 43 := by decide
      unfold cTx
      rw [List.getD_eq_getElem?_getD, List.getElem?_eq_none (by omega)]
      rfl
    rw [e]
    exact Sml.nil
theorem dTx_sml (v : Nat) : Sml (dTx v) := by
  intro c h
  obtain ⟨j, -, rfl⟩ := List.mem_map.mp h
  unfold sb_dec
  omega
set_option maxRecDepth 10000 in
theorem tx1_sml {n : Nat} {q : TN} {A B : List Nat} (hA : Sml A) (hB : Sml B) : Sml (tx1 n q A B) := by
  unfold tx1
  repeat' first
    | exact Sml.nil
    | exact hA
    | exact hB
    | exact cTx_sml _
    | exact dTx_sml _
    | refine Sml.ite ?_ ?_
    | refine Sml.app ?_ ?_
theorem txN_sml (n : Nat) : ∀ (u : Nat) (q : TN), Sml (txN n u q)
  | 0, _ => Sml.nil
  | u + 1, q => by
    rw [txN]
    exact tx1_sml (txN_sml n u _) (txN_sml n u _)
theorem hsT_sml (Z : GZ) : ∀ k, Sml (hsT Z k)
  | 0 => Sml.nil
  | k + 1 => by
    rw [hsT]
    repeat' first
      | exact hsT_sml Z k
      | exact cTx_sml _
      | exact dTx_sml _
      | refine Sml.app ?_ ?_
theorem lcT_sml (Z : GZ) (k : Nat) {T : List Nat} (h : Sml T) : Sml (lcT Z k T) := by
  unfold lcT
  repeat' split
  all_goals
    repeat' first
      | exact h
      | exact cTx_sml _
      | exact dTx_sml _
      | exact txN_sml _ _ _
      | refine Sml.app ?_ ?_
theorem whT_sml (Z : GZ) (k : Nat) : Sml (whT Z k) := by
  unfold whT
  split
  · exact (Sml.nil.app (cTx_sml _)).app (txN_sml _ _ _)
  · exact cTx_sml _
theorem lwT_sml (Z : GZ) : ∀ k, Sml (lwT Z k)
  | 0 => hsT_sml Z _
  | k + 1 => by
    rw [lwT]
    exact ((lcT_sml Z k (lwT_sml Z k)).app (whT_sml Z k)).app (cTx_sml _)
theorem lwT_8 (Z : GZ) (i : Nat) : (lwT Z (toM Z)).getD i 32 < 128 := (lwT_sml Z _).getD i
