def wTp (Z : GZ) (t : Nat → Nat) (tl : Int32) (tb : Nat → Int32) : va_W := [(t 0, .inr (5, [.ref (t 1), .int tl])), (t 1, .inl (zA Z 2, 2000, .inl tb))]
/-- the byte of x at the shift s, as the tape keeps it -/
def byF (x s : Int32) : Int32 := vp_nar .byte (x >>> (s &&& 31)).toInt8.toInt32
def apF (tb : Nat → Int32) (m : Nat) (x : Int32) : Nat → Int32 := upd (upd (upd (upd tb m (byF x 24)) (m + 1) (byF x 16)) (m + 1 + 1) (byF x 8)) (m + 1 + 1 + 1) (byF x 0)
/-- the byte at a place, or -1 -/
def sgF (m : Nat) (tb : Nat → Int32) (x : Int32) : Int32 := if x < 0 ∨ nI m ≤ x ∨ ¬ x < 2000 then -1 else tb x.toNatClampNeg &&& 255
set_option maxRecDepth 100000 in
set_option maxHeartbeats 4000000 in
theorem c_X6_append {Z : GZ} {l : Launch} {t : Nat → Nat} {m : Nat} {tb : Nat → Int32} {x : Int32} (hm : m + 4 ≤ 2000)  : Ct Z l yX6_append cX6_append 3 none (rmK 0) [.ref (t 0), .int x] (wTp Z t (nI m) tb) (fun v w => v = none ∧ w = (wTp Z t (nI (m + 1 + 1 + 1 + 1)) (apF tb m x))) := by
  refine Ct.ofJ (own := RX6) (nm := "append") (lv0 := [(0, .ref (t 0)), (1, .int x)]) (by decide) rfl rfl (Nat.le_of_ble_eq_true rfl) rfl (fun X hXl C E => ?_)
  subst hXl
  refine J_bipush 24 C iX6_append_0 rfl ?_
  refine J_istore_n [(2, .int 24), (0, .ref (t 0)), (1, .int x)] C iX6_append_2 rfl (by decide) rfl ?_
  refine J_iload_n C iX6_append_3 rfl rfl ?_
  refine J_iflt 55 C iX6_append_4 rfl (fun h4 => absurd h4 (by decide)) (fun h4 => ?_)
  refine J_aload_n C iX6_append_7 rfl rfl ?_
  refine J_get (.int (nI m)) 0 C iX6_append_8 gf_X6_15 rfl rfl ?_
  refine J_iflt 49 C iX6_append_11 rfl (fun h11 => absurd h11 (nI_pos (n := m) (by omega))) (fun h11 => ?_)
  refine J_aload_n C iX6_append_14 rfl rfl ?_
  refine J_get (.int (nI m)) 0 C iX6_append_15 gf_X6_15 rfl rfl ?_
  refine J_aload_n C iX6_append_18 rfl rfl ?_
  refine J_get (.ref (t 1)) 0 C iX6_append_19 gf_X6_9 rfl rfl ?_
  refine J_alen (t0 := 2) 2000 1 C iX6_append_22 rfl rfl rfl ?_
  refine J_icmpge 49 C iX6_append_23 rfl (fun h23 => absurd h23 (nI_ge (a := m) (b := 2000) (by omega) (by omega))) (fun h23 => ?_)
  refine J_aload_n C iX6_append_26 rfl rfl ?_
  refine J_get (.ref (t 1)) 0 C iX6_append_27 gf_X6_9 rfl rfl ?_
  refine J_aload_n C iX6_append_30 rfl rfl ?_
  refine J_get (.int (nI m)) 0 C iX6_append_31 gf_X6_15 rfl rfl ?_
  refine J_iload_n C iX6_append_34 rfl rfl ?_
  refine J_iload_n C iX6_append_35 rfl rfl ?_
  refine J_ishr C iX6_append_36 ?_
  refine J_i2b C iX6_append_37 ?_
  refine J_bast (wTp Z t (nI m) (upd tb (nI m).toNatClampNeg (vp_nar .byte ((x >>> (24 &&& 31)).toInt8.toInt32)))) 1 C iX6_append_38 rfl (vp_in_nI (n := m) (by omega) (by decide)) rfl ?_
  rw [nI_clamp (n := m) (by omega)]
  refine J_aload_n C iX6_append_39 rfl rfl ?_
  refine J_dup C iX6_append_40 rfl ?_
  refine J_get (.int (nI m)) 0 C iX6_append_41 gf_X6_15 rfl rfl ?_
  refine J_iconst 1 C iX6_append_44 rfl ?_
  refine J_iadd C iX6_append_45 ?_
  rw [show (nI m) + 1 = nI (m + 1) from nI_add _ _]
  refine J_put (wTp Z t (nI (m + 1)) (upd tb m (vp_nar .byte ((x >>> (24 &&& 31)).toInt8.toInt32)))) 0 C iX6_append_46 pf_X6_15 rfl rfl rfl (Nat.le_of_ble_eq_true rfl) rfl ?_
  refine J_iinc (24 + (-8)) [(2, .int (24 + (-8))), (0, .ref (t 0)), (1, .int x)] C iX6_append_49 rfl rfl (by decide) rfl ?_
  rw [show (24 + (-8) : Int32) = 16 from rfl]
  refine J_goto 3 C iX6_append_52 rfl ?_
  refine J_iload_n C iX6_append_3 rfl rfl ?_
  refine J_iflt 55 C iX6_append_4 rfl (fun h4 => absurd h4 (by decide)) (fun h4 => ?_)
  refine J_aload_n C iX6_append_7 rfl rfl ?_
  refine J_get (.int (nI (m + 1))) 0 C iX6_append_8 gf_X6_15 rfl rfl ?_
  refine J_iflt 49 C iX6_append_11 rfl (fun h11 => absurd h11 (nI_pos (n := (m + 1)) (by omega))) (fun h11 => ?_)
  refine J_aload_n C iX6_append_14 rfl rfl ?_
  refine J_get (.int (nI (m + 1))) 0 C iX6_append_15 gf_X6_15 rfl rfl ?_
  refine J_aload_n C iX6_append_18 rfl rfl ?_
  refine J_get (.ref (t 1)) 0 C iX6_append_19 gf_X6_9 rfl rfl ?_
  refine J_alen (t0 := 2) 2000 1 C iX6_append_22 rfl rfl rfl ?_
  refine J_icmpge 49 C iX6_append_23 rfl (fun h23 => absurd h23 (nI_ge (a := (m + 1)) (b := 2000) (by omega) (by omega))) (fun h23 => ?_)
  refine J_aload_n C iX6_append_26 rfl rfl ?_
  refine J_get (.ref (t 1)) 0 C iX6_append_27 gf_X6_9 rfl rfl ?_
  refine J_aload_n C iX6_append_30 rfl rfl ?_
  refine J_get (.int (nI (m + 1))) 0 C iX6_append_31 gf_X6_15 rfl rfl ?_
  refine J_iload_n C iX6_append_34 rfl rfl ?_
  refine J_iload_n C iX6_append_35 rfl rfl ?_
  refine J_ishr C iX6_append_36 ?_
  refine J_i2b C iX6_append_37 ?_
  refine J_bast (wTp Z t (nI (m + 1)) (upd (upd tb m (vp_nar .byte ((x >>> (24 &&& 31)).toInt8.toInt32))) (nI (m + 1)).toNatClampNeg (vp_nar .byte ((x >>> (16 &&& 31)).toInt8.toInt32)))) 1 C iX6_append_38 rfl (vp_in_nI (n := (m + 1)) (by omega) (by decide)) rfl ?_
  rw [nI_clamp (n := (m + 1)) (by omega)]
  refine J_aload_n C iX6_append_39 rfl rfl ?_
  refine J_dup C iX6_append_40 rfl ?_
  refine J_get (.int (nI (m + 1))) 0 C iX6_append_41 gf_X6_15 rfl rfl ?_
  refine J_iconst 1 C iX6_append_44 rfl ?_
  refine J_iadd C iX6_append_45 ?_
  rw [show (nI (m + 1)) + 1 = nI ((m + 1) + 1) from nI_add _ _]
  refine J_put (wTp Z t (nI ((m + 1) + 1)) (upd (upd tb m (vp_nar .byte ((x >>> (24 &&& 31)).toInt8.toInt32))) (m + 1) (vp_nar .byte ((x >>> (16 &&& 31)).toInt8.toInt32)))) 0 C iX6_append_46 pf_X6_15 rfl rfl rfl (Nat.le_of_ble_eq_true rfl) rfl ?_
  refine J_iinc (16 + (-8)) [(2, .int (16 + (-8))), (0, .ref (t 0)), (1, .int x)] C iX6_append_49 rfl rfl (by decide) rfl ?_
  rw [show (16 + (-8) : Int32) = 8 from rfl]
  refine J_goto 3 C iX6_append_52 rfl ?_
  refine J_iload_n C iX6_append_3 rfl rfl ?_
  refine J_iflt 55 C iX6_append_4 rfl (fun h4 => absurd h4 (by decide)) (fun h4 => ?_)
  refine J_aload_n C iX6_append_7 rfl rfl ?_
  refine J_get (.int (nI ((m + 1) + 1))) 0 C iX6_append_8 gf_X6_15 rfl rfl ?_
  refine J_iflt 49 C iX6_append_11 rfl (fun h11 => absurd h11 (nI_pos (n := ((m + 1) + 1)) (by omega))) (fun h11 => ?_)
  refine J_aload_n C iX6_append_14 rfl rfl ?_
  refine J_get (.int (nI ((m + 1) + 1))) 0 C iX6_append_15 gf_X6_15 rfl rfl ?_
  refine J_aload_n C iX6_append_18 rfl rfl ?_
  refine J_get (.ref (t 1)) 0 C iX6_append_19 gf_X6_9 rfl rfl ?_
  refine J_alen (t0 := 2) 2000 1 C iX6_append_22 rfl rfl rfl ?_
  refine J_icmpge 49 C iX6_append_23 rfl (fun h23 => absurd h23 (nI_ge (a := ((m + 1) + 1)) (b := 2000) (by omega) (by omega))) (fun h23 => ?_)
  refine J_aload_n C iX6_append_26 rfl rfl ?_
  refine J_get (.ref (t 1)) 0 C iX6_append_27 gf_X6_9 rfl rfl ?_
  refine J_aload_n C iX6_append_30 rfl rfl ?_
  refine J_get (.int (nI ((m + 1) + 1))) 0 C iX6_append_31 gf_X6_15 rfl rfl ?_
  refine J_iload_n C iX6_append_34 rfl rfl ?_
  refine J_iload_n C iX6_append_35 rfl rfl ?_
  refine J_ishr C iX6_append_36 ?_
  refine J_i2b C iX6_append_37 ?_
  refine J_bast (wTp Z t (nI ((m + 1) + 1)) (upd (upd (upd tb m (vp_nar .byte ((x >>> (24 &&& 31)).toInt8.toInt32))) (m + 1) (vp_nar .byte ((x >>> (16 &&& 31)).toInt8.toInt32))) (nI ((m + 1) + 1)).toNatClampNeg (vp_nar .byte ((x >>> (8 &&& 31)).toInt8.toInt32)))) 1 C iX6_append_38 rfl (vp_in_nI (n := ((m + 1) + 1)) (by omega) (by decide)) rfl ?_
  rw [nI_clamp (n := ((m + 1) + 1)) (by omega)]
  refine J_aload_n C iX6_append_39 rfl rfl ?_
  refine J_dup C iX6_append_40 rfl ?_
  refine J_get (.int (nI ((m + 1) + 1))) 0 C iX6_append_41 gf_X6_15 rfl rfl ?_
  refine J_iconst 1 C iX6_append_44 rfl ?_
  refine J_iadd C iX6_append_45 ?_
  rw [show (nI ((m + 1) + 1)) + 1 = nI (((m + 1) + 1) + 1) from nI_add _ _]
  refine J_put (wTp Z t (nI (((m + 1) + 1) + 1)) (upd (upd (upd tb m (vp_nar .byte ((x >>> (24 &&& 31)).toInt8.toInt32))) (m + 1) (vp_nar .byte ((x >>> (16 &&& 31)).toInt8.toInt32))) ((m + 1) + 1) (vp_nar .byte ((x >>> (8 &&& 31)).toInt8.toInt32)))) 0 C iX6_append_46 pf_X6_15 rfl rfl rfl (Nat.le_of_ble_eq_true rfl) rfl ?_
  refine J_iinc (8 + (-8)) [(2, .int (8 + (-8))), (0, .ref (t 0)), (1, .int x)] C iX6_append_49 rfl rfl (by decide) rfl ?_
  rw [show (8 + (-8) : Int32) = 0 from rfl]
  refine J_goto 3 C iX6_append_52 rfl ?_
  refine J_iload_n C iX6_append_3 rfl rfl ?_
  refine J_iflt 55 C iX6_append_4 rfl (fun h4 => absurd h4 (by decide)) (fun h4 => ?_)
  refine J_aload_n C iX6_append_7 rfl rfl ?_
  refine J_get (.int (nI (((m + 1) + 1) + 1))) 0 C iX6_append_8 gf_X6_15 rfl rfl ?_
  refine J_iflt 49 C iX6_append_11 rfl (fun h11 => absurd h11 (nI_pos (n := (((m + 1) + 1) + 1)) (by omega))) (fun h11 => ?_)
  refine J_aload_n C iX6_append_14 rfl rfl ?_
  refine J_get (.int (nI (((m + 1) + 1) + 1))) 0 C iX6_append_15 gf_X6_15 rfl rfl ?_
  refine J_aload_n C iX6_append_18 rfl rfl ?_
  refine J_get (.ref (t 1)) 0 C iX6_append_19 gf_X6_9 rfl rfl ?_
  refine J_alen (t0 := 2) 2000 1 C iX6_append_22 rfl rfl rfl ?_
  refine J_icmpge 49 C iX6_append_23 rfl (fun h23 => absurd h23 (nI_ge (a := (((m + 1) + 1) + 1)) (b := 2000) (by omega) (by omega))) (fun h23 => ?_)
  refine J_aload_n C iX6_append_26 rfl rfl ?_
  refine J_get (.ref (t 1)) 0 C iX6_append_27 gf_X6_9 rfl rfl ?_
  refine J_aload_n C iX6_append_30 rfl rfl ?_
  refine J_get (.int (nI (((m + 1) + 1) + 1))) 0 C iX6_append_31 gf_X6_15 rfl rfl ?_
  refine J_iload_n C iX6_append_34 rfl rfl ?_
  refine J_iload_n C iX6_append_35 rfl rfl ?_
  refine J_ishr C iX6_append_36 ?_
  refine J_i2b C iX6_append_37 ?_
  refine J_bast (wTp Z t (nI (((m + 1) + 1) + 1)) (upd (upd (upd (upd tb m (vp_nar .byte ((x >>> (24 &&& 31)).toInt8.toInt32))) (m + 1) (vp_nar .byte ((x >>> (16 &&& 31)).toInt8.toInt32))) ((m + 1) + 1) (vp_nar .byte ((x >>> (8 &&& 31)).toInt8.toInt32))) (nI (((m + 1) + 1) + 1)).toNatClampNeg (vp_nar .byte ((x >>> (0 &&& 31)).toInt8.toInt32)))) 1 C iX6_append_38 rfl (vp_in_nI (n := (((m + 1) + 1) + 1)) (by omega) (by decide)) rfl ?_
  rw [nI_clamp (n := (((m + 1) + 1) + 1)) (by omega)]
  refine J_aload_n C iX6_append_39 rfl rfl ?_
  refine J_dup C iX6_append_40 rfl ?_
  refine J_get (.int (nI (((m + 1) + 1) + 1))) 0 C iX6_append_41 gf_X6_15 rfl rfl ?_
  refine J_iconst 1 C iX6_append_44 rfl ?_
  refine J_iadd C iX6_append_45 ?_
  rw [show (nI (((m + 1) + 1) + 1)) + 1 = nI ((((m + 1) + 1) + 1) + 1) from nI_add _ _]
  refine J_put (wTp Z t (nI ((((m + 1) + 1) + 1) + 1)) (upd (upd (upd (upd tb m (vp_nar .byte ((x >>> (24 &&& 31)).toInt8.toInt32))) (m + 1) (vp_nar .byte ((x >>> (16 &&& 31)).toInt8.toInt32))) ((m + 1) + 1) (vp_nar .byte ((x >>> (8 &&& 31)).toInt8.toInt32))) (((m + 1) + 1) + 1) (vp_nar .byte ((x >>> (0 &&& 31)).toInt8.toInt32)))) 0 C iX6_append_46 pf_X6_15 rfl rfl rfl (Nat.le_of_ble_eq_true rfl) rfl ?_
  refine J_iinc (0 + (-8)) [(2, .int (0 + (-8))), (0, .ref (t 0)), (1, .int x)] C iX6_append_49 rfl rfl (by decide) rfl ?_
  rw [show (0 + (-8) : Int32) = (-8) from rfl]
  refine J_goto 3 C iX6_append_52 rfl ?_
  refine J_iload_n C iX6_append_3 rfl rfl ?_
  refine J_iflt 55 C iX6_append_4 rfl (fun h4 => ?_) (fun h4 => absurd (by decide) h4)
  exact J_vret C E iX6_append_55 ⟨rfl, rfl⟩

def sgN (m : Nat) (tb : Nat → Int32) (p : Nat) : Int32 := sgF m tb (nI p)
theorem sg_in {x : Int32} {n : Nat} {c : Int32} (h1 : ¬ x < 0) (h2 : x < c) (hc : c.toInt = n := by decide) : vp_in x n := by
  refine vinI ?_ ?_
  · have := Int32.not_lt.mp h1
    simpa using Int32.le_iff_toInt_le.mp this
  · have := Int32.lt_iff_toInt_lt.mp h2
    omega
set_option maxRecDepth 100000 in
set_option maxHeartbeats 4000000 in
theorem c_X6_signAt {Z : GZ} {l : Launch} {t : Nat → Nat} {m : Nat} {tb : Nat → Int32} {x : Int32}  : Ct Z l yX6_signAt cX6_signAt 2 (some .int) (rmK 0) [.ref (t 0), .int x] (wTp Z t (nI m) tb) (fun v w => v = some (.int (sgF m tb x)) ∧ w = (wTp Z t (nI m) tb)) := by
  refine Ct.ofJ (own := RX6) (nm := "signAt") (lv0 := [(0, .ref (t 0)), (1, .int x)]) (by decide) rfl rfl (Nat.le_of_ble_eq_true rfl) rfl (fun X hXl C E => ?_)
  subst hXl
  refine J_iload_n C iX6_signAt_0 rfl rfl ?_
  refine J_iflt 21 C iX6_signAt_1 rfl (fun h1 => ?_) (fun h1 => ?_)
  · refine J_iconst (-1) C iX6_signAt_21 rfl ?_
    exact J_iret C E iX6_signAt_22 ⟨by simp [sgF, h1], rfl⟩
  · refine J_iload_n C iX6_signAt_4 rfl rfl ?_
    refine J_aload_n C iX6_signAt_5 rfl rfl ?_
    refine J_get (.int (nI m)) 0 C iX6_signAt_6 gf_X6_15 rfl rfl ?_
    refine J_icmpge 21 C iX6_signAt_9 rfl (fun h9 => ?_) (fun h9 => ?_)
    · refine J_iconst (-1) C iX6_signAt_21 rfl ?_
      exact J_iret C E iX6_signAt_22 ⟨by simp [sgF, h1, h9], rfl⟩
    · refine J_iload_n C iX6_signAt_12 rfl rfl ?_
      refine J_aload_n C iX6_signAt_13 rfl rfl ?_
      refine J_get (.ref (t 1)) 0 C iX6_signAt_14 gf_X6_9 rfl rfl ?_
      refine J_alen (t0 := 2) 2000 1 C iX6_signAt_17 rfl rfl rfl ?_
      refine J_icmplt 23 C iX6_signAt_18 rfl (fun h18 => ?_) (fun h18 => ?_)
      · refine J_aload_n C iX6_signAt_23 rfl rfl ?_
        refine J_get (.ref (t 1)) 0 C iX6_signAt_24 gf_X6_9 rfl rfl ?_
        refine J_iload_n C iX6_signAt_27 rfl rfl ?_
        refine J_bald 1 C iX6_signAt_28 rfl (sg_in h1 h18) ?_
        refine J_sipush 255 C iX6_signAt_29 rfl ?_
        refine J_iand C iX6_signAt_32 ?_
        exact J_iret C E iX6_signAt_33 ⟨by simp [sgF, h1, h9, h18], rfl⟩
      · refine J_iconst (-1) C iX6_signAt_21 rfl ?_
        exact J_iret C E iX6_signAt_22 ⟨by simp [sgF, h1, h9, h18], rfl⟩

def ltF (b : Int32) : Int32 := if b < 97 then b - 48 + 27 else b - 97 + 1
def lnF (w : Int64) (b : Int32) : Int64 := w * 37 + (ltF b).toInt64
set_option maxRecDepth 100000 in
set_option maxHeartbeats 4000000 in
theorem c_X1_lengthened {Z : GZ} {l : Launch} {w : Int64} {b : Int32}  : Ct Z l yX1_lengthened cX1_lengthened 3 (some .long) (rmK 0) [.long w, .int b] [] (fun v w1 => v = some (.long (lnF w b)) ∧ w1 = []) := by
  refine Ct.ofJ (own := RX1) (nm := "lengthened") (lv0 := [(0, .long w), (2, .int b)]) (by decide) rfl rfl (Nat.le_of_ble_eq_true rfl) rfl (fun X hXl C E => ?_)
  subst hXl
  refine J_lload_n C iX1_lengthened_0 rfl rfl ?_
  refine J_ldc2 37 C iX1_lengthened_1 (tsg_in (i := 935) (by decide +kernel) rfl) ?_
  refine J_lmul C iX1_lengthened_4 ?_
  refine J_iload_n C iX1_lengthened_5 rfl rfl ?_
  refine J_bipush 97 C iX1_lengthened_6 rfl ?_
  refine J_icmplt 20 C iX1_lengthened_8 rfl (fun h8 => ?_) (fun h8 => ?_)
  · refine J_iload_n C iX1_lengthened_20 rfl rfl ?_
    refine J_bipush 48 C iX1_lengthened_21 rfl ?_
    refine J_isub C iX1_lengthened_23 ?_
    refine J_bipush 27 C iX1_lengthened_24 rfl ?_
    refine J_iadd C iX1_lengthened_26 ?_
    refine J_i2l C iX1_lengthened_27 ?_
    refine J_ladd C iX1_lengthened_28 ?_
    exact J_lret C E iX1_lengthened_29 ⟨by simp [lnF, ltF, h8], rfl⟩
  · refine J_iload_n C iX1_lengthened_11 rfl rfl ?_
    refine J_bipush 97 C iX1_lengthened_12 rfl ?_
    refine J_isub C iX1_lengthened_14 ?_
    refine J_iconst 1 C iX1_lengthened_15 rfl ?_
    refine J_iadd C iX1_lengthened_16 ?_
    refine J_goto 27 C iX1_lengthened_17 rfl ?_
    refine J_i2l C iX1_lengthened_27 ?_
    refine J_ladd C iX1_lengthened_28 ?_
    exact J_lret C E iX1_lengthened_29 ⟨by simp [lnF, ltF, h8], rfl⟩

/-- held between two bounds, out of a long -/
def hlF (x : Int64) (a b : Int32) : Int32 := (if (if x < b.toInt64 then x else b.toInt64) < a.toInt64 then a.toInt64 else (if x < b.toInt64 then x else b.toInt64)).toInt32
set_option maxRecDepth 100000 in
set_option maxHeartbeats 4000000 in
theorem c_X8_held {Z : GZ} {l : Launch} {x : Int64} {a b : Int32}  : Ct Z l yX8_held cX8_held 4 (some .int) (rmK 1) [.long x, .int a, .int b] [] (fun v w1 => v = some (.int (hlF x a b)) ∧ w1 = []) := by
  refine Ct.ofJ (own := RX8) (nm := "held") (lv0 := [(0, .long x), (2, .int a), (3, .int b)]) (by decide) rfl rfl (Nat.le_of_ble_eq_true rfl) rfl (fun X hXl C E => ?_)
  subst hXl
  refine J_iload_n C iX8_held_0 rfl rfl ?_
  refine J_i2l C iX8_held_1 ?_
  refine J_iload_n C iX8_held_2 rfl rfl ?_
  refine J_i2l C iX8_held_3 ?_
  refine J_lload_n C iX8_held_4 rfl rfl ?_
  refine J_lmin C iX8_held_5 (tsg_in (i := 677) (by decide +kernel) rfl) ma_lmin_1 ma_i ma_lmin_2 (Nat.le_of_ble_eq_true rfl) (Nat.le_of_ble_eq_true rfl) ?_
  refine J_lmax C iX8_held_8 (tsg_in (i := 680) (by decide +kernel) rfl) ma_lmax_1 ma_i ma_lmax_2 (Nat.le_of_ble_eq_true rfl) (Nat.le_of_ble_eq_true rfl) ?_
  refine J_l2i C iX8_held_11 ?_
  exact J_iret C E iX8_held_12 ⟨rfl, rfl⟩

