set_option maxRecDepth 100000 in
set_option maxHeartbeats 4000000 in
theorem c_X9_with {Z : GZ} {l : Launch} {x n a : Nat} {rw : Nat → Nat} {M : va_W} (hn : n < 10) (ha : rw n = a) (hM : ∀ j, j ≤ n → RowIn Z M (rw j)) : Ct Z l yX9_with cX9_with 4 (some (.array (.array .int))) (rmM 0 1 10) [.ref x, .ref a] (arrA Z x n (fun j => some (rw j)) ++ M) (fun v w => ∃ q : Nat, v = some (.ref q) ∧ w = ((arrA Z x n (fun j => some (rw j)) ++ arrA Z q (n + 1) (fun j => some (rw j))) ++ M)) := by
  refine Ct.ofJ (own := RX9) (nm := "with") (lv0 := [(0, .ref x), (1, .ref a)]) (by decide) rfl rfl (Nat.le_of_ble_eq_true rfl) rfl (fun X hXl C E => ?_)
  subst hXl
  refine J_room (rc2 := 1) (rs2 := 10) (Nat.le_refl _) (Nat.le_refl _) ?_
  refine J_aload_n C iX9_with_0 rfl rfl ?_
  refine J_alenN (t0 := 6) 0 C iX9_with_1 rfl rfl ?_
  refine J_iconst 1 C iX9_with_2 rfl ?_
  refine J_iadd C iX9_with_3 ?_
  rw [show (nI n) + 1 = nI (n + 1) from nI_add _ _]
  refine J_room (rc2 := 1 + 0) (rs2 := (n + 1) + (10 - (n + 1))) (by omega) (by omega) ?_
  refine J_newqA (n + 1) C iX9_with_4 (tsg_in (i := 1178) (by decide +kernel) rfl) (nI_pos (n := (n + 1)) (by omega)) (nI_clamp (n := (n + 1)) (by omega)) (by omega) (fun n1 => ?_)
  refine J_ws ((arrA Z x n (fun j => some (rw j)) ++ M) ++ arrA Z n1 (n + 1) (fun _ => none)) rfl ?_
  refine J_perm ((arrA Z x n (fun j => some (rw j)) ++ arrA Z n1 (n + 1) (fun _ => none)) ++ M) (sw2 _ _ _) ?_
  refine J_astore_n [(2, .ref n1), (0, .ref x), (1, .ref a)] C iX9_with_7 rfl (by decide) rfl ?_
  refine J_iconst 0 C iX9_with_8 rfl ?_
  refine J_istore_n [(3, .int 0), (2, .ref n1), (0, .ref x), (1, .ref a)] C iX9_with_9 rfl (by decide) rfl ?_
  refine J_lvm [(3, .int (nI 0)), (0, .ref x), (1, .ref a), (2, .ref n1)] rfl ?_
  refine J_ws ((arrA Z x n (fun j => some (rw j)) ++ arrA Z n1 (n + 1) (fun i => if i < 0 then some (rw i) else none)) ++ M) (by simp only [Nat.not_lt_zero, if_false]) ?_
  refine J_for (fun j => [(3, .int (nI j)), (0, .ref x), (1, .ref a), (2, .ref n1)]) (fun j => ((arrA Z x n (fun j => some (rw j)) ++ arrA Z n1 (n + 1) (fun i => if i < j then some (rw i) else none)) ++ M)) n 0 (by omega) ?_ (fun j hj0 hj ihj => ?_)
  · refine J_iload_n C iX9_with_10 rfl rfl ?_
    refine J_aload_n C iX9_with_11 rfl rfl ?_
    refine J_alenN (t0 := 6) 0 C iX9_with_12 rfl rfl ?_
    refine J_icmpge 28 C iX9_with_13 rfl (fun h13 => ?_) (fun h13 => absurd (nI_le (a := n) (b := n) (by omega) (by omega)) h13)
    refine J_aload_n C iX9_with_28 rfl rfl ?_
    refine J_aload_n C iX9_with_29 rfl rfl ?_
    refine J_alenN (t0 := 6) 0 C iX9_with_30 rfl rfl ?_
    refine J_aload_n C iX9_with_31 rfl rfl ?_
    obtain ⟨i32, N32, g32, e32⟩ := hM n (by omega)
    rw [ha] at e32
    refine J_aastA ((arrA Z x n (fun j => some (rw j)) ++ arrA Z n1 (n + 1) (va_up (fun i => if i < n then some (rw i) else none) ((nI n).toNatClampNeg) (some a))) ++ M) 1 (i32 + 2) C iX9_with_32 rfl e32 (vp_in_nI (n := n) (by omega) (by omega)) rfl ?_
    rw [nI_clamp (n := n) (by omega)]
    refine J_rowQ4 1 ((arrA Z x n (fun j => some (rw j)) ++ arrA Z n1 (n + 1) (fun j => some (rw j))) ++ M) rfl (wi_last ha) rfl ?_
    refine J_aload_n C iX9_with_33 rfl rfl ?_
    exact J_aret C E iX9_with_34 (Or.inr ⟨_, rfl⟩) ⟨n1, rfl, rfl⟩
  · refine J_iload_n C iX9_with_10 rfl rfl ?_
    refine J_aload_n C iX9_with_11 rfl rfl ?_
    refine J_alenN (t0 := 6) 0 C iX9_with_12 rfl rfl ?_
    refine J_icmpge 28 C iX9_with_13 rfl (fun h13 => absurd h13 (nI_ge (a := j) (b := n) (by omega) (by omega))) (fun h13 => ?_)
    refine J_aload_n C iX9_with_16 rfl rfl ?_
    refine J_iload_n C iX9_with_17 rfl rfl ?_
    refine J_aload_n C iX9_with_18 rfl rfl ?_
    refine J_iload_n C iX9_with_19 rfl rfl ?_
    refine J_aaldA 0 C iX9_with_20 rfl (vp_in_nI (n := j) (by omega) (by omega)) ?_
    rw [nI_clamp (n := j) (by omega)]
    refine J_st (.ref (rw j) :: .int (nI j) :: .ref n1 :: []) rfl ?_
    obtain ⟨i21, N21, g21, e21⟩ := hM j (by omega)
    refine J_aastA ((arrA Z x n (fun j => some (rw j)) ++ arrA Z n1 (n + 1) (va_up (fun i => if i < j then some (rw i) else none) ((nI j).toNatClampNeg) (some (rw j)))) ++ M) 1 (i21 + 2) C iX9_with_21 rfl e21 (vp_in_nI (n := j) (by omega) (by omega)) rfl ?_
    rw [nI_clamp (n := j) (by omega)]
    refine J_iinc ((nI j) + 1) [(3, .int ((nI j) + 1)), (0, .ref x), (1, .ref a), (2, .ref n1)] C iX9_with_22 rfl rfl (by decide) rfl ?_
    rw [show (nI j) + 1 = nI (j + 1) from nI_add _ _]
    refine J_goto 10 C iX9_with_25 rfl ?_
    refine J_lvm [(3, .int (nI (j + 1))), (0, .ref x), (1, .ref a), (2, .ref n1)] rfl ?_
    rw [wi_snoc (rw := rw) (j := j)]
    exact ihj

