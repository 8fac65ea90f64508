set_option maxRecDepth 100000 in
set_option maxHeartbeats 4000000 in
theorem law_times {Z : GZ} {X : CX} {Q : State → Prop} {rc rs : Nat} {x : Nat → Nat} {u tm : Nat} {er : Int32} {pP pH pF pT op f1 f2 l0 tb : Nat → Int32} {hh c0 c1 c2 c3 : Nat → Nat} {s hA lA oA tA eA : Nat} {rw lr p h f t : Nat → Nat} {fo ft fe : Nat → Option Nat} {L : List TC} {dy ca : Int32} {wc : va_W} {t9 : Nat} (C : Cx Z X cL_law 29 RL) (hl : (cL X).stackTraces = false) (hL : zms Z 4 ≤ 260) (hC : CI Z x (toN Z) u tm er dy ca pP pH pF pT op f1 f2 l0 hh c0 c1 c2 c3 tb wc) (eq0 : EqS (toN Z) pP pH pF pT p h f t) (ok0 : SnOk (toN Z) p h f t) (tr : TrOk Z (toM Z) L fo ft fe) (hd : DayOk Z op f1 f2 l0 hh c0 c1 c2 c3 u) (next : ∀ (pP9 pH9 pF9 pT9 : Nat → Int32) (p9 h9 f9 t9_ : Nat → Nat) (dy9 ca9 : Int32) (w9 : va_W), CI Z x (toN Z) u tm er dy9 ca9 pP9 pH9 pF9 pT9 op f1 f2 l0 hh c0 c1 c2 c3 tb w9 → EqS (toN Z) pP9 pH9 pF9 pT9 p9 h9 f9 t9_ → SnOk (toN Z) p9 h9 f9 t9_ → Jd Z X room_1 29 Q rc rs 1170 [(4, .int (nI (toN Z))), (3, .ref s), (2, .ref t9), (1, .ref (x 0)), (0, .ref (zms Z 3))] [] ((((wSim Z s (toN Z) (toM Z) hA lA oA tA eA (fun j => some (rw j)) (fun j => some (lr j)) fo ft fe dy9 ca9 ++ wRw Z (toN Z) rw p9 h9 f9 t9_) ++ wPl Z L) ++ wLr Z (toM Z) lr (toK Z) (toV Z)) ++ w9)) : Jd Z X room_1 29 Q (222500 + 1 * (rc + 0)) (1330000 + 1 * (rs + 0)) 46 [(5, .int 0), (4, .int (nI (toN Z))), (3, .ref s), (2, .ref t9), (1, .ref (x 0)), (0, .ref (zms Z 3))] [] ((((wSim Z s (toN Z) (toM Z) hA lA oA tA eA (fun j => some (rw j)) (fun j => some (lr j)) fo ft fe dy ca ++ wRw Z (toN Z) rw p h f t) ++ wPl Z L) ++ wLr Z (toM Z) lr (toK Z) (toV Z)) ++ wc) := by
  have hto := toN_in Z
  refine J_room (rc2 := 44500 * (5 - 0) + (0 + 1 * (rc + 0))) (rs2 := 266000 * (5 - 0) + (0 + 1 * (rs + 0))) (by omega) (by omega) ?_
  refine J_lvm [(5, .int (nI 0)), (4, .int (nI (toN Z))), (3, .ref s), (2, .ref t9), (1, .ref (x 0)), (0, .ref (zms Z 3))] (by rfl) ?_
  refine J_forR (σ := (Nat → Int32) × (Nat → Int32) × (Nat → Int32) × (Nat → Int32) × (Nat → Nat) × (Nat → Nat) × (Nat → Nat) × (Nat → Nat) × Int32 × Int32 × va_W) (fun k => 44500 * (5 - k) + (0 + 1 * (rc + 0))) (fun k => 266000 * (5 - k) + (0 + 1 * (rs + 0))) (fun k q9 => [(5, .int (nI k)), (4, .int (nI (toN Z))), (3, .ref s), (2, .ref t9), (1, .ref (x 0)), (0, .ref (zms Z 3))]) (fun k q9 => ((((wSim Z s (toN Z) (toM Z) hA lA oA tA eA (fun j => some (rw j)) (fun j => some (lr j)) fo ft fe q9.2.2.2.2.2.2.2.2.1 q9.2.2.2.2.2.2.2.2.2.1 ++ wRw Z (toN Z) rw q9.2.2.2.2.1 q9.2.2.2.2.2.1 q9.2.2.2.2.2.2.1 q9.2.2.2.2.2.2.2.1) ++ wPl Z L) ++ wLr Z (toM Z) lr (toK Z) (toV Z)) ++ q9.2.2.2.2.2.2.2.2.2.2)) (fun k q9 => CI Z x (toN Z) u tm er q9.2.2.2.2.2.2.2.2.1 q9.2.2.2.2.2.2.2.2.2.1 q9.1 q9.2.1 q9.2.2.1 q9.2.2.2.1 op f1 f2 l0 hh c0 c1 c2 c3 tb q9.2.2.2.2.2.2.2.2.2.2 ∧ EqS (toN Z) q9.1 q9.2.1 q9.2.2.1 q9.2.2.2.1 q9.2.2.2.2.1 q9.2.2.2.2.2.1 q9.2.2.2.2.2.2.1 q9.2.2.2.2.2.2.2.1 ∧ SnOk (toN Z) q9.2.2.2.2.1 q9.2.2.2.2.2.1 q9.2.2.2.2.2.2.1 q9.2.2.2.2.2.2.2.1) 5 0 (pP, pH, pF, pT, p, h, f, t, dy, ca, wc) (by omega) ⟨hC, eq0, ok0⟩ ?_ ?_
  · rintro ⟨a1_1, a2_1, a3_1, a4_1, a5_1, a6_1, a7_1, a8_1, a9_1, b1_1, b2_1⟩ hT
    dsimp only at hT ⊢
    refine J_room (rc2 := 0 + 1 * (rc + 0)) (rs2 := 0 + 1 * (rs + 0)) (by omega) (by omega) ?_
    refine J_iload C iL_law_46 rfl ?_
    refine J_iconst 5 C iL_law_48 rfl ?_
    refine J_icmpge 1170 C iL_law_49 rfl (fun h49 => ?_) (fun h49 => absurd (by decide) h49)
    refine J_lvm [(4, .int (nI (toN Z))), (3, .ref s), (2, .ref t9), (1, .ref (x 0)), (0, .ref (zms Z 3))] rfl ?_
    refine J_room (rc2 := rc) (rs2 := rs) (by omega) (by omega) ?_
    exact next a1_1 a2_1 a3_1 a4_1 a5_1 a6_1 a7_1 a8_1 a9_1 b1_1 b2_1 hT.1 hT.2.1 hT.2.2
  · rintro k ⟨a1_1, a2_1, a3_1, a4_1, a5_1, a6_1, a7_1, a8_1, a9_1, b1_1, b2_1⟩ hk0 hk hT ihT
    dsimp only at hT ⊢
    refine J_room (rc2 := 44500 + 1 * (44500 * (5 - (k + 1)) + (0 + 1 * (rc + 0)))) (rs2 := 266000 + 1 * (266000 * (5 - (k + 1)) + (0 + 1 * (rs + 0)))) (by omega) (by omega) ?_
    refine J_iload C iL_law_46 rfl ?_
    refine J_iconst 5 C iL_law_48 rfl ?_
    refine J_icmpge 1170 C iL_law_49 rfl (fun h49 => absurd h49 (nI_ge (a := k) (b := 5) (by omega) (by decide))) (fun h49 => ?_)
    refine J_aload_n C iL_law_52 rfl rfl ?_
    refine J_iload C iL_law_53 rfl ?_
    refine J_cSb (As := [.ref (zms Z 3), .int (nI k)]) (st := []) (rc2 := 44500 + 1 * (44500 * (5 - (k + 1)) + (0 + 1 * (rc + 0)))) (rs2 := 266000 + 1 * (266000 * (5 - (k + 1)) + (0 + 1 * (rs + 0)))) (w0 := []) C iL_law_55 lm_L_69 yc_L_cell ys_L_cell (c_L_cell (k := k) (by omega) hL) [] ((((wSim Z s (toN Z) (toM Z) hA lA oA tA eA (fun j => some (rw j)) (fun j => some (lr j)) fo ft fe a9_1 b1_1 ++ wRw Z (toN Z) rw a5_1 a6_1 a7_1 a8_1) ++ wPl Z L) ++ wLr Z (toM Z) lr (toK Z) (toV Z)) ++ b2_1) (by simp only [List.append_assoc, List.append_nil, List.nil_append]) rfl ⟨Nat.le_of_ble_eq_true rfl, Nat.le_of_ble_eq_true rfl⟩ (Nat.le_of_ble_eq_true rfl) (Nat.zero_add _).symm (Nat.zero_add _).symm ?_
    rintro _ _ ⟨rfl, rfl⟩
    refine J_st (.int (ceN Z k) :: []) rfl ?_
    refine J_ws ((((wSim Z s (toN Z) (toM Z) hA lA oA tA eA (fun j => some (rw j)) (fun j => some (lr j)) fo ft fe a9_1 b1_1 ++ wRw Z (toN Z) rw a5_1 a6_1 a7_1 a8_1) ++ wPl Z L) ++ wLr Z (toM Z) lr (toK Z) (toV Z)) ++ b2_1) (by simp only [List.append_assoc, List.append_nil, List.nil_append]) ?_
    refine J_iconst 2 C iL_law_58 rfl ?_
    refine J_ishr C iL_law_59 ?_
    refine J_bipush 53 C iL_law_60 rfl ?_
    refine J_iload C iL_law_62 rfl ?_
    refine J_imul C iL_law_64 ?_
    rw [show (53 * (nI k) : Int32) = nI (53 * k) from pk_mul 53 k]
    refine J_iadd C iL_law_65 ?_
    generalize ((ceN Z k) >>> (2 &&& 31)) + (nI (53 * k)) = x9
    refine J_st (.int x9 :: []) rfl ?_
    refine J_istore [(6, .int x9), (5, .int (nI k)), (4, .int (nI (toN Z))), (3, .ref s), (2, .ref t9), (1, .ref (x 0)), (0, .ref (zms Z 3))] C iL_law_66 (by decide) rfl ?_
    refine J_iconst 0 C iL_law_68 rfl ?_
    refine J_istore [(7, .int 0), (6, .int x9), (5, .int (nI k)), (4, .int (nI (toN Z))), (3, .ref s), (2, .ref t9), (1, .ref (x 0)), (0, .ref (zms Z 3))] C iL_law_69 (by decide) rfl ?_
    refine J_room (rc2 := 130 * (2 - 0) + (44200 + 1 * (44500 * (5 - (k + 1)) + (0 + 1 * (rc + 0))))) (rs2 := 400 * (2 - 0) + (265000 + 1 * (266000 * (5 - (k + 1)) + (0 + 1 * (rs + 0))))) (by omega) (by omega) ?_
    refine J_lvm [(7, .int (nI 0)), (6, .int x9), (5, .int (nI k)), (4, .int (nI (toN Z))), (3, .ref s), (2, .ref t9), (1, .ref (x 0)), (0, .ref (zms Z 3))] (by rfl) ?_
    refine J_forR (σ := (Nat → Int32) × (Nat → Int32) × (Nat → Int32) × (Nat → Int32) × (Nat → Nat) × (Nat → Nat) × (Nat → Nat) × (Nat → Nat) × Int32 × Int32 × va_W) (fun g => 130 * (2 - g) + (44200 + 1 * (44500 * (5 - (k + 1)) + (0 + 1 * (rc + 0))))) (fun g => 400 * (2 - g) + (265000 + 1 * (266000 * (5 - (k + 1)) + (0 + 1 * (rs + 0))))) (fun g q9 => [(7, .int (nI g)), (6, .int x9), (5, .int (nI k)), (4, .int (nI (toN Z))), (3, .ref s), (2, .ref t9), (1, .ref (x 0)), (0, .ref (zms Z 3))]) (fun g q9 => ((((wSim Z s (toN Z) (toM Z) hA lA oA tA eA (fun j => some (rw j)) (fun j => some (lr j)) fo ft fe q9.2.2.2.2.2.2.2.2.1 q9.2.2.2.2.2.2.2.2.2.1 ++ wRw Z (toN Z) rw q9.2.2.2.2.1 q9.2.2.2.2.2.1 q9.2.2.2.2.2.2.1 q9.2.2.2.2.2.2.2.1) ++ wPl Z L) ++ wLr Z (toM Z) lr (toK Z) (toV Z)) ++ q9.2.2.2.2.2.2.2.2.2.2)) (fun g q9 => CI Z x (toN Z) u tm er q9.2.2.2.2.2.2.2.2.1 q9.2.2.2.2.2.2.2.2.2.1 q9.1 q9.2.1 q9.2.2.1 q9.2.2.2.1 op f1 f2 l0 hh c0 c1 c2 c3 tb q9.2.2.2.2.2.2.2.2.2.2 ∧ EqS (toN Z) q9.1 q9.2.1 q9.2.2.1 q9.2.2.2.1 q9.2.2.2.2.1 q9.2.2.2.2.2.1 q9.2.2.2.2.2.2.1 q9.2.2.2.2.2.2.2.1 ∧ SnOk (toN Z) q9.2.2.2.2.1 q9.2.2.2.2.2.1 q9.2.2.2.2.2.2.1 q9.2.2.2.2.2.2.2.1) 2 0 (a1_1, a2_1, a3_1, a4_1, a5_1, a6_1, a7_1, a8_1, a9_1, b1_1, b2_1) (by omega) ⟨hT.1, hT.2.1, hT.2.2⟩ ?_ ?_
    · rintro ⟨a1_2, a2_2, a3_2, a4_2, a5_2, a6_2, a7_2, a8_2, a9_2, b1_2, b2_2⟩ hAc
      dsimp only at hAc ⊢
      refine J_room (rc2 := 44200 + 1 * (44500 * (5 - (k + 1)) + (0 + 1 * (rc + 0)))) (rs2 := 265000 + 1 * (266000 * (5 - (k + 1)) + (0 + 1 * (rs + 0)))) (by omega) (by omega) ?_
      refine J_iload C iL_law_71 rfl ?_
      refine J_iconst 2 C iL_law_73 rfl ?_
      refine J_icmpge 106 C iL_law_74 rfl (fun h74 => ?_) (fun h74 => absurd (by decide) h74)
      refine J_lvm [(6, .int x9), (5, .int (nI k)), (4, .int (nI (toN Z))), (3, .ref s), (2, .ref t9), (1, .ref (x 0)), (0, .ref (zms Z 3))] rfl ?_
      refine J_room (rc2 := 43980 + 1 * ((20 + 1 * ((12 + 1 * ((40 + 1 * (44500 * (5 - (k + 1)) + (0 + 1 * (rc + 0)) + 0)) + 0)) + 0)) + 0)) (rs2 := 264100 + 1 * ((120 + 1 * ((72 + 1 * ((240 + 1 * (266000 * (5 - (k + 1)) + (0 + 1 * (rs + 0)) + 0)) + 0)) + 0)) + 0)) (by omega) (by omega) ?_
      refine law_turn C hl hAc.1 hAc.2.1 hAc.2.2 tr hd (fun v0_1 v1_1 v2_1 v3_1 v4_1 v5_1 v6_1 v7_1 v8_1 hC1 eq1 ok1 => ?_)
      refine J_iinc ((nI k) + 1) [(5, .int ((nI k) + 1)), (6, .int x9), (4, .int (nI (toN Z))), (3, .ref s), (2, .ref t9), (1, .ref (x 0)), (0, .ref (zms Z 3))] C iL_law_1164 rfl rfl (by decide) rfl ?_
      rw [show (nI k) + 1 = nI (k + 1) from nI_add _ _]
      refine J_goto 46 C iL_law_1167 rfl ?_
      refine J_lvm [(5, .int (nI (k + 1))), (4, .int (nI (toN Z))), (3, .ref s), (2, .ref t9), (1, .ref (x 0)), (0, .ref (zms Z 3))] rfl ?_
      refine J_room (rc2 := 44500 * (5 - (k + 1)) + (0 + 1 * (rc + 0))) (rs2 := 266000 * (5 - (k + 1)) + (0 + 1 * (rs + 0))) (by omega) (by omega) ?_
      exact ihT (a1_2, v0_1, v1_1, v2_1, a5_2, v3_1, v4_1, v5_1, v6_1, v7_1, v8_1) ⟨hC1, eq1, ok1⟩
    · rintro g ⟨a1_2, a2_2, a3_2, a4_2, a5_2, a6_2, a7_2, a8_2, a9_2, b1_2, b2_2⟩ hg0 hg hAc ihA
      dsimp only at hAc ⊢
      refine J_room (rc2 := 130 + 1 * (130 * (2 - (g + 1)) + (44200 + 1 * (44500 * (5 - (k + 1)) + (0 + 1 * (rc + 0)))))) (rs2 := 400 + 1 * (400 * (2 - (g + 1)) + (265000 + 1 * (266000 * (5 - (k + 1)) + (0 + 1 * (rs + 0)))))) (by omega) (by omega) ?_
      refine J_iload C iL_law_71 rfl ?_
      refine J_iconst 2 C iL_law_73 rfl ?_
      refine J_icmpge 106 C iL_law_74 rfl (fun h74 => absurd h74 (nI_ge (a := g) (b := 2) (by omega) (by decide))) (fun h74 => ?_)
      refine J_aload_n C iL_law_77 rfl rfl ?_
      refine J_aload_n C iL_law_78 rfl rfl ?_
      refine J_iload C iL_law_79 rfl ?_
      refine J_iconst 3 C iL_law_81 rfl ?_
      refine J_iload C iL_law_82 rfl ?_
      refine J_imul C iL_law_84 ?_
      rw [show (3 * (nI g) : Int32) = nI (3 * g) from pk_mul 3 g]
      refine J_ishr C iL_law_85 ?_
      refine J_bipush 29 C iL_law_86 rfl ?_
      refine J_iload C iL_law_88 rfl ?_
      refine J_imul C iL_law_90 ?_
      rw [show (29 * (nI g) : Int32) = nI (29 * g) from pk_mul 29 g]
      refine J_iadd C iL_law_91 ?_
      refine J_room (rc2 := 130 + (0 + 1 * (130 * (2 - (g + 1)) + (44200 + 1 * (44500 * (5 - (k + 1)) + (0 + 1 * (rc + 0))))))) (rs2 := 400 + (0 + 1 * (400 * (2 - (g + 1)) + (265000 + 1 * (266000 * (5 - (k + 1)) + (0 + 1 * (rs + 0))))))) (by omega) (by omega) ?_
      refine J_cSb (As := [.ref (x 0), .ref s, .int ((x9 >>> ((nI (3 * g)) &&& 31)) + (nI (29 * g)))]) (st := []) (rc2 := 0 + 1 * (130 * (2 - (g + 1)) + (44200 + 1 * (44500 * (5 - (k + 1)) + (0 + 1 * (rc + 0)))))) (rs2 := 0 + 1 * (400 * (2 - (g + 1)) + (265000 + 1 * (266000 * (5 - (k + 1)) + (0 + 1 * (rs + 0)))))) (w0 := ((((wSim Z s (toN Z) (toM Z) hA lA oA tA eA (fun j => some (rw j)) (fun j => some (lr j)) fo ft fe a9_2 b1_2 ++ wRw Z (toN Z) rw a5_2 a6_2 a7_2 a8_2) ++ wPl Z L) ++ wLr Z (toM Z) lr (toK Z) (toV Z)) ++ b2_2)) C iL_law_92 lm_L_173 yc_L_act ys_L_act (c_L_act hl (v := (x9 >>> ((nI (3 * g)) &&& 31)) + (nI (29 * g))) hAc.1 hAc.2.1 hAc.2.2 tr hd) [] [] (by simp only [List.append_assoc, List.append_nil, List.nil_append]) rfl ⟨Nat.le_of_ble_eq_true rfl, Nat.le_of_ble_eq_true rfl⟩ (Nat.le_of_ble_eq_true rfl) rfl rfl ?_
      rintro _ _ ⟨rfl, u0_2, u1_2, u2_2, u3_2, u4_2, u5_2, u6_2, u7_2, u8_2, u9_2, u10_2, rfl, hC2, eq2, ok2⟩
      refine J_st (.int 1 :: []) rfl ?_
      refine J_ws ((((wSim Z s (toN Z) (toM Z) hA lA oA tA eA (fun j => some (rw j)) (fun j => some (lr j)) fo ft fe u8_2 u9_2 ++ wRw Z (toN Z) rw u4_2 u5_2 u6_2 u7_2) ++ wPl Z L) ++ wLr Z (toM Z) lr (toK Z) (toV Z)) ++ u10_2) (by simp only [List.append_assoc, List.append_nil, List.nil_append]) ?_
      refine J_ifne 100 C iL_law_95 rfl (fun h95 => ?_) (fun h95 => absurd h95 (by decide))
      refine J_iinc ((nI g) + 1) [(7, .int ((nI g) + 1)), (6, .int x9), (5, .int (nI k)), (4, .int (nI (toN Z))), (3, .ref s), (2, .ref t9), (1, .ref (x 0)), (0, .ref (zms Z 3))] C iL_law_100 rfl rfl (by decide) rfl ?_
      rw [show (nI g) + 1 = nI (g + 1) from nI_add _ _]
      refine J_goto 71 C iL_law_103 rfl ?_
      refine J_lvm [(7, .int (nI (g + 1))), (6, .int x9), (5, .int (nI k)), (4, .int (nI (toN Z))), (3, .ref s), (2, .ref t9), (1, .ref (x 0)), (0, .ref (zms Z 3))] rfl ?_
      refine J_room (rc2 := 130 * (2 - (g + 1)) + (44200 + 1 * (44500 * (5 - (k + 1)) + (0 + 1 * (rc + 0))))) (rs2 := 400 * (2 - (g + 1)) + (265000 + 1 * (266000 * (5 - (k + 1)) + (0 + 1 * (rs + 0))))) (by omega) (by omega) ?_
      exact ihA (u0_2, u1_2, u2_2, u3_2, u4_2, u5_2, u6_2, u7_2, u8_2, u9_2, u10_2) ⟨hC2, eq2, ok2⟩

