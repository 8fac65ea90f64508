theorem df_X8 : ∀ j, j < 8 → defaultValue (tyX8 j) = vp_V [.null, .null, .null, .null, .null, .null, .null, .int 0] j := by
  intro j hj
  match j, hj with
  | 0, _ => rfl
  | 1, _ => rfl
  | 2, _ => rfl
  | 3, _ => rfl
  | 4, _ => rfl
  | 5, _ => rfl
  | 6, _ => rfl
  | 7, _ => rfl
theorem eq_none : EqS 0 (fun _ => 0) (fun _ => 0) (fun _ => 0) (fun _ => 0) zzN zzN zzN zzN := fun i hi => absurd hi (Nat.not_lt_zero _)
theorem sn_none : SnOk 0 zzN zzN zzN zzN := ⟨by decide, fun i hi => absurd hi (Nat.not_lt_zero _)⟩
def wX8 (_ : GZ) (q : Nat) : va_W := [(q, .inr (7, [.null, .null, .null, .null, .null, .null, .null, .int 0]))]
