theorem nar_dig : ∀ d, d < 128 → vp_nar .byte (nI d) = nI d := by decide +kernel
theorem fit_dig : ∀ d, d < 128 → fits .byte (.int (nI d)) = true := by decide +kernel
theorem neg2 (x : Int32) : -(-x) = x := Int32.neg_neg
theorem sub_z (x : Int32) : x - 0 = x := by simp
/-- the digits of v as a text -/
def dTx (v : Nat) : List Nat := (List.range (sb_dg v)).map (sb_dec v)
theorem dTx_len (v : Nat) : (dTx v).length = sb_dg v := by simp [dTx]
theorem dTx_at {v j : Nat} (h : j < sb_dg v) : (dTx v).getD j 0 = sb_dec v j := by
  simp [dTx, List.getD_eq_getElem?_getD, List.getElem?_map, List.getElem?_range h]
theorem chr_ok : ∀ c, c < 128 → ((nI c &&& 255).toUInt32 % 65536).toInt32 = nI c ∧ narrow .char (.int (nI c)) = .int (nI c) := by decide +kernel
theorem app_num {T : List Nat} {cap v : Nat} {b b5 b7 : Nat → Int32} (h : SbT T cap b) (hb : ∀ i, i < cap → b5 i = b i) (hf : sb_Fit b7) (hl : T.length + sb_dg v ≤ 2000) (hd : ∀ j, j < sb_dg v → b7 (T.length + sb_dg v - sb_dg v + j) = nI (sb_dec v j)) (hk : ∀ j, j < T.length + sb_dg v - sb_dg v → b7 j = b5 j) : SbT (T ++ dTx v) (sb_cap (T.length + sb_dg v) cap) b7 := by
  obtain ⟨h1, h2, h3, h4⟩ := h
  refine ⟨by rw [List.length_append, dTx_len]; exact sb_cap_ge _ _, cap_4 hl h2, hf, fun i hi => ?_⟩
  rw [List.length_append, dTx_len] at hi
  rw [getD_app]
  by_cases e : i < T.length
  · rw [if_pos e, hk i (by omega), hb i (by omega), h4 i e]
  · rw [if_neg e, dTx_at (by omega), ← hd (i - T.length) (by omega)]
    congr 1
    omega
theorem df_J4 : ∀ j, j < 4 → defaultValue (tyJ4 j) = vp_V [.null, .int 0, .int 0, .int 0] j := by
  intro j hj
  match j, hj with
  | 0, _ => rfl
  | 1, _ => rfl
  | 2, _ => rfl
  | 3, _ => rfl
theorem df_J0 : ∀ j, j < 4 → defaultValue (tyJ0 j) = vp_V [.null, .int 0, .int 0, .int 0] j := by
  intro j hj
  match j, hj with
  | 0, _ => rfl
  | 1, _ => rfl
  | 2, _ => rfl
  | 3, _ => rfl
