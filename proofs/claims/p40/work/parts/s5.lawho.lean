set_option maxRecDepth 100000 in
set_option maxHeartbeats 4000000 in
theorem law_ho {Z : GZ} {X : CX} {Q : State → Prop} {rc rs : Nat} {x : Nat → Nat} {u tm : Nat} {er : Int32} {pP pH pF pT op f1 f2 l0 tb : Nat → Int32} {hh c0 c1 c2 c3 : Nat → Nat} {s hA lA oA tA eA : Nat} {rw lr p h f t : Nat → Nat} {fo ft fe : Nat → Option Nat} {L : List TC} {dy ca : Int32} {wc : va_W} {n1 t9 tm9 : Nat} {dg9 : Int64} {x9 : Int32} {a : Nat} (C : Cx Z X cL_law 29 RL) (hl : (cL X).stackTraces = false) (hC : CI Z x (toN Z) u tm er dy ca pP pH pF pT op f1 f2 l0 hh c0 c1 c2 c3 tb wc) (eq0 : EqS (toN Z) pP pH pF pT p h f t) (ok0 : SnOk (toN Z) p h f t) (ha : a < toN Z) (next : ∀ w9, CI Z x (toN Z) u tm er dy ca pP pH pF pT op f1 f2 l0 hh c0 c1 c2 c3 tb w9 → Jd Z X room_1 29 Q rc rs 610 [(13, .int (nI a)), (12, .ref n1), (11, .int (nI (cnN (fun a => decide (loN p h f t (toN Z) a = 0)) (a + 1)))), (10, .int (nI (smN (fun a => caN p h f t (toN Z) a) (a + 1)))), (9, .int (nI (smN (fun a => loN p h f t (toN Z) a) (a + 1)))), (7, .long dg9), (6, .int x9), (5, .int (nI tm9)), (4, .int (nI (toN Z))), (3, .ref s), (2, .ref t9), (1, .ref (x 0)), (0, .ref (zms Z 3))] [] (((((arrI Z n1 24 (fun i => nI (cnN ((fun k a => dkN p h f t (toN Z) a k) i) (a + 1))) ++ wSim Z s (toN Z) (toM Z) hA lA oA tA eA (fun j => some (rw j)) (fun j => some (lr j)) fo ft fe dy ca) ++ wRw Z (toN Z) rw p h f t) ++ wPl Z L) ++ wLr Z (toM Z) lr (toK Z) (toV Z)) ++ w9)) : Jd Z X room_1 29 Q (4880 + 1 * (rc + 0)) (29300 + 1 * (rs + 0)) 137 [(13, .int (nI a)), (12, .ref n1), (11, .int (nI (cnN (fun a => decide (loN p h f t (toN Z) a = 0)) a))), (10, .int (nI (smN (fun a => caN p h f t (toN Z) a) a))), (9, .int (nI (smN (fun a => loN p h f t (toN Z) a) a))), (7, .long dg9), (6, .int x9), (5, .int (nI tm9)), (4, .int (nI (toN Z))), (3, .ref s), (2, .ref t9), (1, .ref (x 0)), (0, .ref (zms Z 3))] [] (((((arrI Z n1 24 (fun i => nI (cnN ((fun k a => dkN p h f t (toN Z) a k) i) a)) ++ wSim Z s (toN Z) (toM Z) hA lA oA tA eA (fun j => some (rw j)) (fun j => some (lr j)) fo ft fe dy ca) ++ wRw Z (toN Z) rw p h f t) ++ wPl Z L) ++ wLr Z (toM Z) lr (toK Z) (toV Z)) ++ wc) := by
  have hto := toN_in Z
  have ha9 := ok0.2 a ha
  have hl9 := loN_le p h f t (toN Z) a
  refine J_iconst 0 C iL_law_137 rfl ?_
  refine J_istore [(14, .int 0), (13, .int (nI a)), (12, .ref n1), (11, .int (nI (cnN (fun a => decide (loN p h f t (toN Z) a = 0)) a))), (10, .int (nI (smN (fun a => caN p h f t (toN Z) a) a))), (9, .int (nI (smN (fun a => loN p h f t (toN Z) a) a))), (7, .long dg9), (6, .int x9), (5, .int (nI tm9)), (4, .int (nI (toN Z))), (3, .ref s), (2, .ref t9), (1, .ref (x 0)), (0, .ref (zms Z 3))] C iL_law_138 (by decide) rfl ?_
  refine J_iconst 0 C iL_law_140 rfl ?_
  refine J_istore [(15, .int 0), (14, .int 0), (13, .int (nI a)), (12, .ref n1), (11, .int (nI (cnN (fun a => decide (loN p h f t (toN Z) a = 0)) a))), (10, .int (nI (smN (fun a => caN p h f t (toN Z) a) a))), (9, .int (nI (smN (fun a => loN p h f t (toN Z) a) a))), (7, .long dg9), (6, .int x9), (5, .int (nI tm9)), (4, .int (nI (toN Z))), (3, .ref s), (2, .ref t9), (1, .ref (x 0)), (0, .ref (zms Z 3))] C iL_law_141 (by decide) rfl ?_
  refine J_iconst 0 C iL_law_143 rfl ?_
  refine J_istore [(16, .int 0), (15, .int 0), (14, .int 0), (13, .int (nI a)), (12, .ref n1), (11, .int (nI (cnN (fun a => decide (loN p h f t (toN Z) a = 0)) a))), (10, .int (nI (smN (fun a => caN p h f t (toN Z) a) a))), (9, .int (nI (smN (fun a => loN p h f t (toN Z) a) a))), (7, .long dg9), (6, .int x9), (5, .int (nI tm9)), (4, .int (nI (toN Z))), (3, .ref s), (2, .ref t9), (1, .ref (x 0)), (0, .ref (zms Z 3))] C iL_law_144 (by decide) rfl ?_
  refine J_ws (((((arrI Z n1 24 (fun i => if i < 0 then nI (cnN ((fun k a => dkN p h f t (toN Z) a k) i) (a + 1)) else nI (cnN ((fun k a => dkN p h f t (toN Z) a k) i) a)) ++ wSim Z s (toN Z) (toM Z) hA lA oA tA eA (fun j => some (rw j)) (fun j => some (lr j)) fo ft fe dy ca) ++ wRw Z (toN Z) rw p h f t) ++ wPl Z L) ++ wLr Z (toM Z) lr (toK Z) (toV Z)) ++ wc) (by rw [row_a]) ?_
  refine J_room (rc2 := 200 * (24 - 0) + (40 + 1 * (rc + 0))) (rs2 := 1200 * (24 - 0) + (240 + 1 * (rs + 0))) (by omega) (by omega) ?_
  refine J_lvm [(16, .int (nI 0)), (15, .int 0), (14, .int (nI (cnN (fun k => dkN p h f t (toN Z) a k) 0))), (13, .int (nI a)), (12, .ref n1), (11, .int (nI (cnN (fun a => decide (loN p h f t (toN Z) a = 0)) a))), (10, .int (nI (smN (fun a => caN p h f t (toN Z) a) a))), (9, .int (nI (smN (fun a => loN p h f t (toN Z) a) a))), (7, .long dg9), (6, .int x9), (5, .int (nI tm9)), (4, .int (nI (toN Z))), (3, .ref s), (2, .ref t9), (1, .ref (x 0)), (0, .ref (zms Z 3))] (by rfl) ?_
  refine J_forR (σ := va_W) (fun q => 200 * (24 - q) + (40 + 1 * (rc + 0))) (fun q => 1200 * (24 - q) + (240 + 1 * (rs + 0))) (fun q q9 => [(16, .int (nI q)), (15, .int 0), (14, .int (nI (cnN (fun k => dkN p h f t (toN Z) a k) q))), (13, .int (nI a)), (12, .ref n1), (11, .int (nI (cnN (fun a => decide (loN p h f t (toN Z) a = 0)) a))), (10, .int (nI (smN (fun a => caN p h f t (toN Z) a) a))), (9, .int (nI (smN (fun a => loN p h f t (toN Z) a) a))), (7, .long dg9), (6, .int x9), (5, .int (nI tm9)), (4, .int (nI (toN Z))), (3, .ref s), (2, .ref t9), (1, .ref (x 0)), (0, .ref (zms Z 3))]) (fun q q9 => (((((arrI Z n1 24 (fun i => if i < q then nI (cnN ((fun k a => dkN p h f t (toN Z) a k) i) (a + 1)) else nI (cnN ((fun k a => dkN p h f t (toN Z) a k) i) a)) ++ wSim Z s (toN Z) (toM Z) hA lA oA tA eA (fun j => some (rw j)) (fun j => some (lr j)) fo ft fe dy ca) ++ wRw Z (toN Z) rw p h f t) ++ wPl Z L) ++ wLr Z (toM Z) lr (toK Z) (toV Z)) ++ q9)) (fun q q9 => CI Z x (toN Z) u tm er dy ca pP pH pF pT op f1 f2 l0 hh c0 c1 c2 c3 tb q9) 24 0 (wc) (by omega) hC ?_ ?_
  · rintro wv3 hH
    refine J_room (rc2 := 40 + 1 * (rc + 0)) (rs2 := 240 + 1 * (rs + 0)) (by omega) (by omega) ?_
    refine J_iload C iL_law_146 rfl ?_
    refine J_bipush 24 C iL_law_148 rfl ?_
    refine J_icmpge 468 C iL_law_150 rfl (fun h150 => ?_) (fun h150 => absurd (by decide) h150)
    refine J_rowI 0 (g := (fun i => nI (cnN ((fun k a => dkN p h f t (toN Z) a k) i) (a + 1)))) (((((arrI Z n1 24 (fun i => nI (cnN ((fun k a => dkN p h f t (toN Z) a k) i) (a + 1))) ++ wSim Z s (toN Z) (toM Z) hA lA oA tA eA (fun j => some (rw j)) (fun j => some (lr j)) fo ft fe dy ca) ++ wRw Z (toN Z) rw p h f t) ++ wPl Z L) ++ wLr Z (toM Z) lr (toK Z) (toV Z)) ++ wv3) rfl row_z rfl ?_
    have e24 := lo_24 ok0 ha
    refine J_lvm [(16, .int (nI 24)), (15, .int 0), (14, .int (nI (loN p h f t (toN Z) a))), (13, .int (nI a)), (12, .ref n1), (11, .int (nI (cnN (fun a => decide (loN p h f t (toN Z) a = 0)) a))), (10, .int (nI (smN (fun a => caN p h f t (toN Z) a) a))), (9, .int (nI (smN (fun a => loN p h f t (toN Z) a) a))), (7, .long dg9), (6, .int x9), (5, .int (nI tm9)), (4, .int (nI (toN Z))), (3, .ref s), (2, .ref t9), (1, .ref (x 0)), (0, .ref (zms Z 3))] (by rw [e24]; rfl) ?_
    refine J_iconst 0 C iL_law_468 rfl ?_
    refine J_istore [(16, .int 0), (15, .int 0), (14, .int (nI (loN p h f t (toN Z) a))), (13, .int (nI a)), (12, .ref n1), (11, .int (nI (cnN (fun a => decide (loN p h f t (toN Z) a = 0)) a))), (10, .int (nI (smN (fun a => caN p h f t (toN Z) a) a))), (9, .int (nI (smN (fun a => loN p h f t (toN Z) a) a))), (7, .long dg9), (6, .int x9), (5, .int (nI tm9)), (4, .int (nI (toN Z))), (3, .ref s), (2, .ref t9), (1, .ref (x 0)), (0, .ref (zms Z 3))] C iL_law_469 (by decide) rfl ?_
    refine J_room (rc2 := 2 * (9 - 0) + (20 + 1 * (rc + 0))) (rs2 := 12 * (9 - 0) + (120 + 1 * (rs + 0))) (by omega) (by omega) ?_
    refine J_lvm [(16, .int (nI 0)), (15, .int (nI (mxN (fun b => ltN p h f t a b) 0))), (14, .int (nI (loN p h f t (toN Z) a))), (13, .int (nI a)), (12, .ref n1), (11, .int (nI (cnN (fun a => decide (loN p h f t (toN Z) a = 0)) a))), (10, .int (nI (smN (fun a => caN p h f t (toN Z) a) a))), (9, .int (nI (smN (fun a => loN p h f t (toN Z) a) a))), (7, .long dg9), (6, .int x9), (5, .int (nI tm9)), (4, .int (nI (toN Z))), (3, .ref s), (2, .ref t9), (1, .ref (x 0)), (0, .ref (zms Z 3))] (by rfl) ?_
    refine J_forR (σ := va_W) (fun b => 2 * (9 - b) + (20 + 1 * (rc + 0))) (fun b => 12 * (9 - b) + (120 + 1 * (rs + 0))) (fun b q9 => [(16, .int (nI b)), (15, .int (nI (mxN (fun b => ltN p h f t a b) b))), (14, .int (nI (loN p h f t (toN Z) a))), (13, .int (nI a)), (12, .ref n1), (11, .int (nI (cnN (fun a => decide (loN p h f t (toN Z) a = 0)) a))), (10, .int (nI (smN (fun a => caN p h f t (toN Z) a) a))), (9, .int (nI (smN (fun a => loN p h f t (toN Z) a) a))), (7, .long dg9), (6, .int x9), (5, .int (nI tm9)), (4, .int (nI (toN Z))), (3, .ref s), (2, .ref t9), (1, .ref (x 0)), (0, .ref (zms Z 3))]) (fun b q9 => (((((arrI Z n1 24 (fun i => nI (cnN ((fun k a => dkN p h f t (toN Z) a k) i) (a + 1))) ++ wSim Z s (toN Z) (toM Z) hA lA oA tA eA (fun j => some (rw j)) (fun j => some (lr j)) fo ft fe dy ca) ++ wRw Z (toN Z) rw p h f t) ++ wPl Z L) ++ wLr Z (toM Z) lr (toK Z) (toV Z)) ++ q9)) (fun b q9 => CI Z x (toN Z) u tm er dy ca pP pH pF pT op f1 f2 l0 hh c0 c1 c2 c3 tb q9) (toN Z) 0 (wv3) (by omega) hH ?_ ?_
    · rintro wv2 hB
      refine J_room (rc2 := 20 + 1 * (rc + 0)) (rs2 := 120 + 1 * (rs + 0)) (by omega) (by omega) ?_
      refine J_iload C iL_law_471 rfl ?_
      refine J_iload C iL_law_473 rfl ?_
      refine J_icmpge 499 C iL_law_475 rfl (fun h475 => ?_) (fun h475 => absurd (nI_le (a := toN Z) (b := toN Z) (by omega) (by omega)) h475)
      refine J_alt (ι := va_W) (P := fun w9 => CI Z x (toN Z) u tm er dy ca pP pH pF pT op f1 f2 l0 hh c0 c1 c2 c3 tb w9) (20 + 1 * (rc + 0)) (120 + 1 * (rs + 0)) 512 (fun _ => [(16, .int (nI (toN Z))), (15, .int (nI (mxN (fun b => ltN p h f t a b) (toN Z)))), (14, .int (nI (loN p h f t (toN Z) a))), (13, .int (nI a)), (12, .ref n1), (11, .int (nI (cnN (fun a => decide (loN p h f t (toN Z) a = 0)) a))), (10, .int (nI (smN (fun a => caN p h f t (toN Z) a) a))), (9, .int (nI (smN (fun a => loN p h f t (toN Z) a) a))), (7, .long dg9), (6, .int x9), (5, .int (nI tm9)), (4, .int (nI (toN Z))), (3, .ref s), (2, .ref t9), (1, .ref (x 0)), (0, .ref (zms Z 3))]) (fun _ => .int (nI (cnN (fun a => decide (loN p h f t (toN Z) a = 0)) (a + 1))) :: []) (fun w9 => (((((arrI Z n1 24 (fun i => nI (cnN ((fun k a => dkN p h f t (toN Z) a k) i) (a + 1))) ++ wSim Z s (toN Z) (toM Z) hA lA oA tA eA (fun j => some (rw j)) (fun j => some (lr j)) fo ft fe dy ca) ++ wRw Z (toN Z) rw p h f t) ++ wPl Z L) ++ wLr Z (toM Z) lr (toK Z) (toV Z)) ++ w9)) (fun w1 hC1 => ?_) (fun hk512 => ?_)
      · refine J_istore [(11, .int (nI (cnN (fun a => decide (loN p h f t (toN Z) a = 0)) (a + 1)))), (16, .int (nI (toN Z))), (15, .int (nI (mxN (fun b => ltN p h f t a b) (toN Z)))), (14, .int (nI (loN p h f t (toN Z) a))), (13, .int (nI a)), (12, .ref n1), (10, .int (nI (smN (fun a => caN p h f t (toN Z) a) a))), (9, .int (nI (smN (fun a => loN p h f t (toN Z) a) a))), (7, .long dg9), (6, .int x9), (5, .int (nI tm9)), (4, .int (nI (toN Z))), (3, .ref s), (2, .ref t9), (1, .ref (x 0)), (0, .ref (zms Z 3))] C iL_law_512 (by decide) rfl ?_
        refine J_iload C iL_law_514 rfl ?_
        refine J_iload C iL_law_516 rfl ?_
        refine J_iadd C iL_law_518 ?_
        rw [show (nI (smN (fun a => loN p h f t (toN Z) a) a)) + (nI (loN p h f t (toN Z) a)) = nI ((smN (fun a => loN p h f t (toN Z) a) a) + (loN p h f t (toN Z) a)) from nI_add _ _]
        refine J_st (.int (nI (smN (fun a => loN p h f t (toN Z) a) (a + 1))) :: []) rfl ?_
        refine J_istore [(9, .int (nI (smN (fun a => loN p h f t (toN Z) a) (a + 1)))), (11, .int (nI (cnN (fun a => decide (loN p h f t (toN Z) a = 0)) (a + 1)))), (16, .int (nI (toN Z))), (15, .int (nI (mxN (fun b => ltN p h f t a b) (toN Z)))), (14, .int (nI (loN p h f t (toN Z) a))), (13, .int (nI a)), (12, .ref n1), (10, .int (nI (smN (fun a => caN p h f t (toN Z) a) a))), (7, .long dg9), (6, .int x9), (5, .int (nI tm9)), (4, .int (nI (toN Z))), (3, .ref s), (2, .ref t9), (1, .ref (x 0)), (0, .ref (zms Z 3))] C iL_law_519 (by decide) rfl ?_
        refine J_iload C iL_law_521 rfl ?_
        refine J_aload_n C iL_law_523 rfl rfl ?_
        refine J_iload C iL_law_524 rfl ?_
        obtain ⟨fs2, hf2⟩ := CI.head hC1
        refine J_room (rc2 := 1 + (19 + 1 * (rc + 0))) (rs2 := 6 + (114 + 1 * (rs + 0))) (by omega) (by omega) ?_
        refine J_cVb (As := [.int (nI a)]) (st := .int (nI (smN (fun a => caN p h f t (toN Z) a) a)) :: []) (rc2 := 19 + 1 * (rc + 0)) (rs2 := 114 + 1 * (rs + 0)) (w0 := (w1)) (q0 := 0) C iL_law_526 lm_L_225 yc_X8_castBy yv_X8_castBy (k_castBy hl (a := a) hC1 eq0 ok0 (by omega)) rfl rfl hf2 ((((arrI Z n1 24 (fun i => nI (cnN ((fun k a => dkN p h f t (toN Z) a k) i) (a + 1))) ++ wSim Z s (toN Z) (toM Z) hA lA oA tA eA (fun j => some (rw j)) (fun j => some (lr j)) fo ft fe dy ca) ++ wRw Z (toN Z) rw p h f t) ++ wPl Z L) ++ wLr Z (toM Z) lr (toK Z) (toV Z)) [] (by simp only [List.append_assoc, List.append_nil, List.nil_append]) rfl ⟨Nat.le_of_ble_eq_true rfl, Nat.le_of_ble_eq_true rfl⟩ (Nat.le_of_ble_eq_true rfl) rfl rfl ?_
        rintro _ w2 ⟨rfl, hC2⟩
        refine J_st (.int (nI (caN p h f t (toN Z) a)) :: .int (nI (smN (fun a => caN p h f t (toN Z) a) a)) :: []) rfl ?_
        refine J_ws (((((arrI Z n1 24 (fun i => nI (cnN ((fun k a => dkN p h f t (toN Z) a k) i) (a + 1))) ++ wSim Z s (toN Z) (toM Z) hA lA oA tA eA (fun j => some (rw j)) (fun j => some (lr j)) fo ft fe dy ca) ++ wRw Z (toN Z) rw p h f t) ++ wPl Z L) ++ wLr Z (toM Z) lr (toK Z) (toV Z)) ++ w2) (by simp only [List.append_assoc, List.append_nil, List.nil_append]) ?_
        refine J_iadd C iL_law_529 ?_
        rw [show (nI (smN (fun a => caN p h f t (toN Z) a) a)) + (nI (caN p h f t (toN Z) a)) = nI ((smN (fun a => caN p h f t (toN Z) a) a) + (caN p h f t (toN Z) a)) from nI_add _ _]
        refine J_st (.int (nI (smN (fun a => caN p h f t (toN Z) a) (a + 1))) :: []) rfl ?_
        refine J_istore [(10, .int (nI (smN (fun a => caN p h f t (toN Z) a) (a + 1)))), (9, .int (nI (smN (fun a => loN p h f t (toN Z) a) (a + 1)))), (11, .int (nI (cnN (fun a => decide (loN p h f t (toN Z) a = 0)) (a + 1)))), (16, .int (nI (toN Z))), (15, .int (nI (mxN (fun b => ltN p h f t a b) (toN Z)))), (14, .int (nI (loN p h f t (toN Z) a))), (13, .int (nI a)), (12, .ref n1), (7, .long dg9), (6, .int x9), (5, .int (nI tm9)), (4, .int (nI (toN Z))), (3, .ref s), (2, .ref t9), (1, .ref (x 0)), (0, .ref (zms Z 3))] C iL_law_530 (by decide) rfl ?_
        refine J_aload_n C iL_law_532 rfl rfl ?_
        refine J_iload C iL_law_533 rfl ?_
        obtain ⟨fs3, hf3⟩ := CI.head hC2
        refine J_room (rc2 := 1 + (18 + 1 * (rc + 0))) (rs2 := 6 + (108 + 1 * (rs + 0))) (by omega) (by omega) ?_
        refine J_cVb (As := [.int (nI a)]) (st := []) (rc2 := 18 + 1 * (rc + 0)) (rs2 := 108 + 1 * (rs + 0)) (w0 := (w2)) (q0 := 0) C iL_law_535 lm_L_228 yc_X8_hoursLost yv_X8_hoursLost (k_hoursLost hl (a := a) hC2 eq0 ok0 (by omega)) rfl rfl hf3 ((((arrI Z n1 24 (fun i => nI (cnN ((fun k a => dkN p h f t (toN Z) a k) i) (a + 1))) ++ wSim Z s (toN Z) (toM Z) hA lA oA tA eA (fun j => some (rw j)) (fun j => some (lr j)) fo ft fe dy ca) ++ wRw Z (toN Z) rw p h f t) ++ wPl Z L) ++ wLr Z (toM Z) lr (toK Z) (toV Z)) [] (by simp only [List.append_assoc, List.append_nil, List.nil_append]) rfl ⟨Nat.le_of_ble_eq_true rfl, Nat.le_of_ble_eq_true rfl⟩ (Nat.le_of_ble_eq_true rfl) rfl rfl ?_
        rintro _ w3 ⟨rfl, hC3⟩
        refine J_st (.int (nI (loN p h f t (toN Z) a)) :: []) rfl ?_
        refine J_ws (((((arrI Z n1 24 (fun i => nI (cnN ((fun k a => dkN p h f t (toN Z) a k) i) (a + 1))) ++ wSim Z s (toN Z) (toM Z) hA lA oA tA eA (fun j => some (rw j)) (fun j => some (lr j)) fo ft fe dy ca) ++ wRw Z (toN Z) rw p h f t) ++ wPl Z L) ++ wLr Z (toM Z) lr (toK Z) (toV Z)) ++ w3) (by simp only [List.append_assoc, List.append_nil, List.nil_append]) ?_
        refine J_iload C iL_law_538 rfl ?_
        refine J_icmpne 608 C iL_law_540 rfl (fun h540 => absurd rfl h540) (fun h540 => ?_)
        refine J_iload C iL_law_543 rfl ?_
        refine J_bipush 12 C iL_law_545 rfl ?_
        refine J_icmpgt 608 C iL_law_547 rfl (fun h547 => absurd h547 (nI_nlt (a := 12) (b := loN p h f t (toN Z) a) (lo_12 ok0 ha) (by decide))) (fun h547 => ?_)
        refine J_iload C iL_law_550 rfl ?_
        refine J_iload C iL_law_552 rfl ?_
        refine J_icmpgt 608 C iL_law_554 rfl (fun h554 => absurd h554 (nI_nlt (a := loN p h f t (toN Z) a) (b := mxN (fun b => ltN p h f t a b) (toN Z)) (mxN_le (fun i hi => lt_lo ok0 ha hi)) (by omega))) (fun h554 => ?_)
        refine J_iload C iL_law_557 rfl ?_
        by_cases hl0 : loN p h f t (toN Z) a = 0
        · refine J_ifle 567 C iL_law_559 rfl (fun h559 => ?_) (fun h559 => absurd (show nI (loN p h f t (toN Z) a) ≤ 0 by rw [hl0]; decide) h559)
          refine J_aload_n C iL_law_567 rfl rfl ?_
          refine J_iload C iL_law_568 rfl ?_
          refine J_iload C iL_law_570 rfl ?_
          obtain ⟨fs4, hf4⟩ := CI.head hC3
          refine J_room (rc2 := 2 + (16 + 1 * (rc + 0))) (rs2 := 12 + (96 + 1 * (rs + 0))) (by omega) (by omega) ?_
          refine J_cVb (As := [.int (nI a), .int (nI a)]) (st := []) (rc2 := 16 + 1 * (rc + 0)) (rs2 := 96 + 1 * (rs + 0)) (w0 := (w3)) (q0 := 0) C iL_law_572 lm_L_219 yc_X8_hoursLostTo yv_X8_hoursLostTo (k_hoursLostTo hl (a := a) (b := a) hC3 eq0 ok0 (by omega) (by omega)) rfl rfl hf4 ((((arrI Z n1 24 (fun i => nI (cnN ((fun k a => dkN p h f t (toN Z) a k) i) (a + 1))) ++ wSim Z s (toN Z) (toM Z) hA lA oA tA eA (fun j => some (rw j)) (fun j => some (lr j)) fo ft fe dy ca) ++ wRw Z (toN Z) rw p h f t) ++ wPl Z L) ++ wLr Z (toM Z) lr (toK Z) (toV Z)) [] (by simp only [List.append_assoc, List.append_nil, List.nil_append]) rfl ⟨Nat.le_of_ble_eq_true rfl, Nat.le_of_ble_eq_true rfl⟩ (Nat.le_of_ble_eq_true rfl) rfl rfl ?_
          rintro _ w4 ⟨rfl, hC4⟩
          refine J_st (.int (nI (ltN p h f t a a)) :: []) rfl ?_
          refine J_ws (((((arrI Z n1 24 (fun i => nI (cnN ((fun k a => dkN p h f t (toN Z) a k) i) (a + 1))) ++ wSim Z s (toN Z) (toM Z) hA lA oA tA eA (fun j => some (rw j)) (fun j => some (lr j)) fo ft fe dy ca) ++ wRw Z (toN Z) rw p h f t) ++ wPl Z L) ++ wLr Z (toM Z) lr (toK Z) (toV Z)) ++ w4) (by simp only [List.append_assoc, List.append_nil, List.nil_append]) ?_
          refine J_ifne 608 C iL_law_575 rfl (fun h575 => absurd (show nI (ltN p h f t a a) = 0 by rw [lt_self]; rfl) h575) (fun h575 => ?_)
          have hx1 := axN_ok (g := (fun a => loN p h f t (toN Z) a)) (k := toN Z) (by omega)
          have hx2 := axN_ok (g := (fun a => caN p h f t (toN Z) a)) (k := toN Z) (by omega)
          have hx3 := hx1.1
          have hx4 := hx2.1
          have hx5 := loN_le p h f t (toN Z) (axN (fun a => loN p h f t (toN Z) a) (toN Z))
          have hx6 := caN_le p h f t (n := toN Z) (by omega) (axN (fun a => caN p h f t (toN Z) a) (toN Z))
          refine J_aload_n C iL_law_578 rfl rfl ?_
          refine J_aload_n C iL_law_579 rfl rfl ?_
          obtain ⟨fs5, hf5⟩ := CI.head hC4
          refine J_room (rc2 := 1 + (15 + 1 * (rc + 0))) (rs2 := 6 + (90 + 1 * (rs + 0))) (by omega) (by omega) ?_
          refine J_cVb (As := []) (st := .ref (x 0) :: []) (rc2 := 15 + 1 * (rc + 0)) (rs2 := 90 + 1 * (rs + 0)) (w0 := (w4)) (q0 := 0) C iL_law_580 lm_L_231 yc_X8_worstHouse yv_X8_worstHouse (k_worstHouse hl hC4 eq0 ok0 (by omega)) rfl rfl hf5 ((((arrI Z n1 24 (fun i => nI (cnN ((fun k a => dkN p h f t (toN Z) a k) i) (a + 1))) ++ wSim Z s (toN Z) (toM Z) hA lA oA tA eA (fun j => some (rw j)) (fun j => some (lr j)) fo ft fe dy ca) ++ wRw Z (toN Z) rw p h f t) ++ wPl Z L) ++ wLr Z (toM Z) lr (toK Z) (toV Z)) [] (by simp only [List.append_assoc, List.append_nil, List.nil_append]) rfl ⟨Nat.le_of_ble_eq_true rfl, Nat.le_of_ble_eq_true rfl⟩ (Nat.le_of_ble_eq_true rfl) rfl rfl ?_
          rintro _ w5 ⟨rfl, hC5⟩
          refine J_st (.int (nI (axN (fun a => loN p h f t (toN Z) a) (toN Z))) :: .ref (x 0) :: []) rfl ?_
          refine J_ws (((((arrI Z n1 24 (fun i => nI (cnN ((fun k a => dkN p h f t (toN Z) a k) i) (a + 1))) ++ wSim Z s (toN Z) (toM Z) hA lA oA tA eA (fun j => some (rw j)) (fun j => some (lr j)) fo ft fe dy ca) ++ wRw Z (toN Z) rw p h f t) ++ wPl Z L) ++ wLr Z (toM Z) lr (toK Z) (toV Z)) ++ w5) (by simp only [List.append_assoc, List.append_nil, List.nil_append]) ?_
          obtain ⟨fs6, hf6⟩ := CI.head hC5
          refine J_room (rc2 := 1 + (14 + 1 * (rc + 0))) (rs2 := 6 + (84 + 1 * (rs + 0))) (by omega) (by omega) ?_
          refine J_cVb (As := [.int (nI (axN (fun a => loN p h f t (toN Z) a) (toN Z)))]) (st := []) (rc2 := 14 + 1 * (rc + 0)) (rs2 := 84 + 1 * (rs + 0)) (w0 := (w5)) (q0 := 0) C iL_law_583 lm_L_228 yc_X8_hoursLost yv_X8_hoursLost (k_hoursLost hl (a := (axN (fun a => loN p h f t (toN Z) a) (toN Z))) hC5 eq0 ok0 (by omega)) rfl rfl hf6 ((((arrI Z n1 24 (fun i => nI (cnN ((fun k a => dkN p h f t (toN Z) a k) i) (a + 1))) ++ wSim Z s (toN Z) (toM Z) hA lA oA tA eA (fun j => some (rw j)) (fun j => some (lr j)) fo ft fe dy ca) ++ wRw Z (toN Z) rw p h f t) ++ wPl Z L) ++ wLr Z (toM Z) lr (toK Z) (toV Z)) [] (by simp only [List.append_assoc, List.append_nil, List.nil_append]) rfl ⟨Nat.le_of_ble_eq_true rfl, Nat.le_of_ble_eq_true rfl⟩ (Nat.le_of_ble_eq_true rfl) rfl rfl ?_
          rintro _ w6 ⟨rfl, hC6⟩
          refine J_st (.int (nI (loN p h f t (toN Z) (axN (fun a => loN p h f t (toN Z) a) (toN Z)))) :: []) rfl ?_
          refine J_ws (((((arrI Z n1 24 (fun i => nI (cnN ((fun k a => dkN p h f t (toN Z) a k) i) (a + 1))) ++ wSim Z s (toN Z) (toM Z) hA lA oA tA eA (fun j => some (rw j)) (fun j => some (lr j)) fo ft fe dy ca) ++ wRw Z (toN Z) rw p h f t) ++ wPl Z L) ++ wLr Z (toM Z) lr (toK Z) (toV Z)) ++ w6) (by simp only [List.append_assoc, List.append_nil, List.nil_append]) ?_
          refine J_iload C iL_law_586 rfl ?_
          refine J_icmplt 608 C iL_law_588 rfl (fun h588 => absurd h588 (nI_nlt (a := loN p h f t (toN Z) (axN (fun a => loN p h f t (toN Z) a) (toN Z))) (b := loN p h f t (toN Z) a) (hx1.2.1 a ha) (by omega))) (fun h588 => ?_)
          refine J_aload_n C iL_law_591 rfl rfl ?_
          refine J_aload_n C iL_law_592 rfl rfl ?_
          obtain ⟨fs7, hf7⟩ := CI.head hC6
          refine J_room (rc2 := 1 + (13 + 1 * (rc + 0))) (rs2 := 6 + (78 + 1 * (rs + 0))) (by omega) (by omega) ?_
          refine J_cVb (As := []) (st := .ref (x 0) :: []) (rc2 := 13 + 1 * (rc + 0)) (rs2 := 78 + 1 * (rs + 0)) (w0 := (w6)) (q0 := 0) C iL_law_593 lm_L_234 yc_X8_darkestWall yv_X8_darkestWall (k_darkestWall hl hC6 eq0 ok0 (by omega)) rfl rfl hf7 ((((arrI Z n1 24 (fun i => nI (cnN ((fun k a => dkN p h f t (toN Z) a k) i) (a + 1))) ++ wSim Z s (toN Z) (toM Z) hA lA oA tA eA (fun j => some (rw j)) (fun j => some (lr j)) fo ft fe dy ca) ++ wRw Z (toN Z) rw p h f t) ++ wPl Z L) ++ wLr Z (toM Z) lr (toK Z) (toV Z)) [] (by simp only [List.append_assoc, List.append_nil, List.nil_append]) rfl ⟨Nat.le_of_ble_eq_true rfl, Nat.le_of_ble_eq_true rfl⟩ (Nat.le_of_ble_eq_true rfl) rfl rfl ?_
          rintro _ w7 ⟨rfl, hC7⟩
          refine J_st (.int (nI (axN (fun a => caN p h f t (toN Z) a) (toN Z))) :: .ref (x 0) :: []) rfl ?_
          refine J_ws (((((arrI Z n1 24 (fun i => nI (cnN ((fun k a => dkN p h f t (toN Z) a k) i) (a + 1))) ++ wSim Z s (toN Z) (toM Z) hA lA oA tA eA (fun j => some (rw j)) (fun j => some (lr j)) fo ft fe dy ca) ++ wRw Z (toN Z) rw p h f t) ++ wPl Z L) ++ wLr Z (toM Z) lr (toK Z) (toV Z)) ++ w7) (by simp only [List.append_assoc, List.append_nil, List.nil_append]) ?_
          obtain ⟨fs8, hf8⟩ := CI.head hC7
          refine J_room (rc2 := 1 + (12 + 1 * (rc + 0))) (rs2 := 6 + (72 + 1 * (rs + 0))) (by omega) (by omega) ?_
          refine J_cVb (As := [.int (nI (axN (fun a => caN p h f t (toN Z) a) (toN Z)))]) (st := []) (rc2 := 12 + 1 * (rc + 0)) (rs2 := 72 + 1 * (rs + 0)) (w0 := (w7)) (q0 := 0) C iL_law_596 lm_L_225 yc_X8_castBy yv_X8_castBy (k_castBy hl (a := (axN (fun a => caN p h f t (toN Z) a) (toN Z))) hC7 eq0 ok0 (by omega)) rfl rfl hf8 ((((arrI Z n1 24 (fun i => nI (cnN ((fun k a => dkN p h f t (toN Z) a k) i) (a + 1))) ++ wSim Z s (toN Z) (toM Z) hA lA oA tA eA (fun j => some (rw j)) (fun j => some (lr j)) fo ft fe dy ca) ++ wRw Z (toN Z) rw p h f t) ++ wPl Z L) ++ wLr Z (toM Z) lr (toK Z) (toV Z)) [] (by simp only [List.append_assoc, List.append_nil, List.nil_append]) rfl ⟨Nat.le_of_ble_eq_true rfl, Nat.le_of_ble_eq_true rfl⟩ (Nat.le_of_ble_eq_true rfl) rfl rfl ?_
          rintro _ w8 ⟨rfl, hC8⟩
          refine J_st (.int (nI (caN p h f t (toN Z) (axN (fun a => caN p h f t (toN Z) a) (toN Z)))) :: []) rfl ?_
          refine J_ws (((((arrI Z n1 24 (fun i => nI (cnN ((fun k a => dkN p h f t (toN Z) a k) i) (a + 1))) ++ wSim Z s (toN Z) (toM Z) hA lA oA tA eA (fun j => some (rw j)) (fun j => some (lr j)) fo ft fe dy ca) ++ wRw Z (toN Z) rw p h f t) ++ wPl Z L) ++ wLr Z (toM Z) lr (toK Z) (toV Z)) ++ w8) (by simp only [List.append_assoc, List.append_nil, List.nil_append]) ?_
          refine J_aload_n C iL_law_599 rfl rfl ?_
          refine J_iload C iL_law_600 rfl ?_
          obtain ⟨fs9, hf9⟩ := CI.head hC8
          refine J_room (rc2 := 1 + (11 + 1 * (rc + 0))) (rs2 := 6 + (66 + 1 * (rs + 0))) (by omega) (by omega) ?_
          refine J_cVb (As := [.int (nI a)]) (st := .int (nI (caN p h f t (toN Z) (axN (fun a => caN p h f t (toN Z) a) (toN Z)))) :: []) (rc2 := 11 + 1 * (rc + 0)) (rs2 := 66 + 1 * (rs + 0)) (w0 := (w8)) (q0 := 0) C iL_law_602 lm_L_225 yc_X8_castBy yv_X8_castBy (k_castBy hl (a := a) hC8 eq0 ok0 (by omega)) rfl rfl hf9 ((((arrI Z n1 24 (fun i => nI (cnN ((fun k a => dkN p h f t (toN Z) a k) i) (a + 1))) ++ wSim Z s (toN Z) (toM Z) hA lA oA tA eA (fun j => some (rw j)) (fun j => some (lr j)) fo ft fe dy ca) ++ wRw Z (toN Z) rw p h f t) ++ wPl Z L) ++ wLr Z (toM Z) lr (toK Z) (toV Z)) [] (by simp only [List.append_assoc, List.append_nil, List.nil_append]) rfl ⟨Nat.le_of_ble_eq_true rfl, Nat.le_of_ble_eq_true rfl⟩ (Nat.le_of_ble_eq_true rfl) rfl rfl ?_
          rintro _ w9 ⟨rfl, hC9⟩
          refine J_st (.int (nI (caN p h f t (toN Z) a)) :: .int (nI (caN p h f t (toN Z) (axN (fun a => caN p h f t (toN Z) a) (toN Z)))) :: []) rfl ?_
          refine J_ws (((((arrI Z n1 24 (fun i => nI (cnN ((fun k a => dkN p h f t (toN Z) a k) i) (a + 1))) ++ wSim Z s (toN Z) (toM Z) hA lA oA tA eA (fun j => some (rw j)) (fun j => some (lr j)) fo ft fe dy ca) ++ wRw Z (toN Z) rw p h f t) ++ wPl Z L) ++ wLr Z (toM Z) lr (toK Z) (toV Z)) ++ w9) (by simp only [List.append_assoc, List.append_nil, List.nil_append]) ?_
          refine J_icmpge 610 C iL_law_605 rfl (fun h605 => ?_) (fun h605 => absurd (nI_le (a := caN p h f t (toN Z) a) (b := caN p h f t (toN Z) (axN (fun a => caN p h f t (toN Z) a) (toN Z))) (hx2.2.1 a ha) (by omega)) h605)
          refine J_lvm [(13, .int (nI a)), (12, .ref n1), (11, .int (nI (cnN (fun a => decide (loN p h f t (toN Z) a = 0)) (a + 1)))), (10, .int (nI (smN (fun a => caN p h f t (toN Z) a) (a + 1)))), (9, .int (nI (smN (fun a => loN p h f t (toN Z) a) (a + 1)))), (7, .long dg9), (6, .int x9), (5, .int (nI tm9)), (4, .int (nI (toN Z))), (3, .ref s), (2, .ref t9), (1, .ref (x 0)), (0, .ref (zms Z 3))] rfl ?_
          refine J_room (rc2 := rc) (rs2 := rs) (by omega) (by omega) ?_
          exact next w9 hC9
        · refine J_ifle 567 C iL_law_559 rfl (fun h559 => absurd h559 (fun e => hl0 (by rw [show (0 : Int32) = nI 0 from rfl, nI_leI (by omega) (by decide)] at e; omega))) (fun h559 => ?_)
          refine J_iload C iL_law_562 rfl ?_
          refine J_ifeq 608 C iL_law_564 rfl (fun h564 => absurd h564 (fun e => absurd ((nI_eq (a := mxN (fun b => ltN p h f t a b) (toN Z)) (b := 0) (by have := mxN_le (g := (fun b => ltN p h f t a b)) (c := 24) (k := toN Z) (fun i _ => ltN_le p h f t a i); omega) (by decide)).mp e) (by obtain ⟨b9, hb1, hb2⟩ := lo_pos ok0 ha (by omega); have := mxN_ge (g := (fun b => ltN p h f t a b)) hb1; omega))) (fun h564 => ?_)
          refine J_aload_n C iL_law_567 rfl rfl ?_
          refine J_iload C iL_law_568 rfl ?_
          refine J_iload C iL_law_570 rfl ?_
          obtain ⟨fs10, hf10⟩ := CI.head hC3
          refine J_room (rc2 := 2 + (16 + 1 * (rc + 0))) (rs2 := 12 + (96 + 1 * (rs + 0))) (by omega) (by omega) ?_
          refine J_cVb (As := [.int (nI a), .int (nI a)]) (st := []) (rc2 := 16 + 1 * (rc + 0)) (rs2 := 96 + 1 * (rs + 0)) (w0 := (w3)) (q0 := 0) C iL_law_572 lm_L_219 yc_X8_hoursLostTo yv_X8_hoursLostTo (k_hoursLostTo hl (a := a) (b := a) hC3 eq0 ok0 (by omega) (by omega)) rfl rfl hf10 ((((arrI Z n1 24 (fun i => nI (cnN ((fun k a => dkN p h f t (toN Z) a k) i) (a + 1))) ++ wSim Z s (toN Z) (toM Z) hA lA oA tA eA (fun j => some (rw j)) (fun j => some (lr j)) fo ft fe dy ca) ++ wRw Z (toN Z) rw p h f t) ++ wPl Z L) ++ wLr Z (toM Z) lr (toK Z) (toV Z)) [] (by simp only [List.append_assoc, List.append_nil, List.nil_append]) rfl ⟨Nat.le_of_ble_eq_true rfl, Nat.le_of_ble_eq_true rfl⟩ (Nat.le_of_ble_eq_true rfl) rfl rfl ?_
          rintro _ w10 ⟨rfl, hC10⟩
          refine J_st (.int (nI (ltN p h f t a a)) :: []) rfl ?_
          refine J_ws (((((arrI Z n1 24 (fun i => nI (cnN ((fun k a => dkN p h f t (toN Z) a k) i) (a + 1))) ++ wSim Z s (toN Z) (toM Z) hA lA oA tA eA (fun j => some (rw j)) (fun j => some (lr j)) fo ft fe dy ca) ++ wRw Z (toN Z) rw p h f t) ++ wPl Z L) ++ wLr Z (toM Z) lr (toK Z) (toV Z)) ++ w10) (by simp only [List.append_assoc, List.append_nil, List.nil_append]) ?_
          refine J_ifne 608 C iL_law_575 rfl (fun h575 => absurd (show nI (ltN p h f t a a) = 0 by rw [lt_self]; rfl) h575) (fun h575 => ?_)
          have hx1 := axN_ok (g := (fun a => loN p h f t (toN Z) a)) (k := toN Z) (by omega)
          have hx2 := axN_ok (g := (fun a => caN p h f t (toN Z) a)) (k := toN Z) (by omega)
          have hx3 := hx1.1
          have hx4 := hx2.1
          have hx5 := loN_le p h f t (toN Z) (axN (fun a => loN p h f t (toN Z) a) (toN Z))
          have hx6 := caN_le p h f t (n := toN Z) (by omega) (axN (fun a => caN p h f t (toN Z) a) (toN Z))
          refine J_aload_n C iL_law_578 rfl rfl ?_
          refine J_aload_n C iL_law_579 rfl rfl ?_
          obtain ⟨fs11, hf11⟩ := CI.head hC10
          refine J_room (rc2 := 1 + (15 + 1 * (rc + 0))) (rs2 := 6 + (90 + 1 * (rs + 0))) (by omega) (by omega) ?_
          refine J_cVb (As := []) (st := .ref (x 0) :: []) (rc2 := 15 + 1 * (rc + 0)) (rs2 := 90 + 1 * (rs + 0)) (w0 := (w10)) (q0 := 0) C iL_law_580 lm_L_231 yc_X8_worstHouse yv_X8_worstHouse (k_worstHouse hl hC10 eq0 ok0 (by omega)) rfl rfl hf11 ((((arrI Z n1 24 (fun i => nI (cnN ((fun k a => dkN p h f t (toN Z) a k) i) (a + 1))) ++ wSim Z s (toN Z) (toM Z) hA lA oA tA eA (fun j => some (rw j)) (fun j => some (lr j)) fo ft fe dy ca) ++ wRw Z (toN Z) rw p h f t) ++ wPl Z L) ++ wLr Z (toM Z) lr (toK Z) (toV Z)) [] (by simp only [List.append_assoc, List.append_nil, List.nil_append]) rfl ⟨Nat.le_of_ble_eq_true rfl, Nat.le_of_ble_eq_true rfl⟩ (Nat.le_of_ble_eq_true rfl) rfl rfl ?_
          rintro _ w11 ⟨rfl, hC11⟩
          refine J_st (.int (nI (axN (fun a => loN p h f t (toN Z) a) (toN Z))) :: .ref (x 0) :: []) rfl ?_
          refine J_ws (((((arrI Z n1 24 (fun i => nI (cnN ((fun k a => dkN p h f t (toN Z) a k) i) (a + 1))) ++ wSim Z s (toN Z) (toM Z) hA lA oA tA eA (fun j => some (rw j)) (fun j => some (lr j)) fo ft fe dy ca) ++ wRw Z (toN Z) rw p h f t) ++ wPl Z L) ++ wLr Z (toM Z) lr (toK Z) (toV Z)) ++ w11) (by simp only [List.append_assoc, List.append_nil, List.nil_append]) ?_
          obtain ⟨fs12, hf12⟩ := CI.head hC11
          refine J_room (rc2 := 1 + (14 + 1 * (rc + 0))) (rs2 := 6 + (84 + 1 * (rs + 0))) (by omega) (by omega) ?_
          refine J_cVb (As := [.int (nI (axN (fun a => loN p h f t (toN Z) a) (toN Z)))]) (st := []) (rc2 := 14 + 1 * (rc + 0)) (rs2 := 84 + 1 * (rs + 0)) (w0 := (w11)) (q0 := 0) C iL_law_583 lm_L_228 yc_X8_hoursLost yv_X8_hoursLost (k_hoursLost hl (a := (axN (fun a => loN p h f t (toN Z) a) (toN Z))) hC11 eq0 ok0 (by omega)) rfl rfl hf12 ((((arrI Z n1 24 (fun i => nI (cnN ((fun k a => dkN p h f t (toN Z) a k) i) (a + 1))) ++ wSim Z s (toN Z) (toM Z) hA lA oA tA eA (fun j => some (rw j)) (fun j => some (lr j)) fo ft fe dy ca) ++ wRw Z (toN Z) rw p h f t) ++ wPl Z L) ++ wLr Z (toM Z) lr (toK Z) (toV Z)) [] (by simp only [List.append_assoc, List.append_nil, List.nil_append]) rfl ⟨Nat.le_of_ble_eq_true rfl, Nat.le_of_ble_eq_true rfl⟩ (Nat.le_of_ble_eq_true rfl) rfl rfl ?_
          rintro _ w12 ⟨rfl, hC12⟩
          refine J_st (.int (nI (loN p h f t (toN Z) (axN (fun a => loN p h f t (toN Z) a) (toN Z)))) :: []) rfl ?_
          refine J_ws (((((arrI Z n1 24 (fun i => nI (cnN ((fun k a => dkN p h f t (toN Z) a k) i) (a + 1))) ++ wSim Z s (toN Z) (toM Z) hA lA oA tA eA (fun j => some (rw j)) (fun j => some (lr j)) fo ft fe dy ca) ++ wRw Z (toN Z) rw p h f t) ++ wPl Z L) ++ wLr Z (toM Z) lr (toK Z) (toV Z)) ++ w12) (by simp only [List.append_assoc, List.append_nil, List.nil_append]) ?_
          refine J_iload C iL_law_586 rfl ?_
          refine J_icmplt 608 C iL_law_588 rfl (fun h588 => absurd h588 (nI_nlt (a := loN p h f t (toN Z) (axN (fun a => loN p h f t (toN Z) a) (toN Z))) (b := loN p h f t (toN Z) a) (hx1.2.1 a ha) (by omega))) (fun h588 => ?_)
          refine J_aload_n C iL_law_591 rfl rfl ?_
          refine J_aload_n C iL_law_592 rfl rfl ?_
          obtain ⟨fs13, hf13⟩ := CI.head hC12
          refine J_room (rc2 := 1 + (13 + 1 * (rc + 0))) (rs2 := 6 + (78 + 1 * (rs + 0))) (by omega) (by omega) ?_
          refine J_cVb (As := []) (st := .ref (x 0) :: []) (rc2 := 13 + 1 * (rc + 0)) (rs2 := 78 + 1 * (rs + 0)) (w0 := (w12)) (q0 := 0) C iL_law_593 lm_L_234 yc_X8_darkestWall yv_X8_darkestWall (k_darkestWall hl hC12 eq0 ok0 (by omega)) rfl rfl hf13 ((((arrI Z n1 24 (fun i => nI (cnN ((fun k a => dkN p h f t (toN Z) a k) i) (a + 1))) ++ wSim Z s (toN Z) (toM Z) hA lA oA tA eA (fun j => some (rw j)) (fun j => some (lr j)) fo ft fe dy ca) ++ wRw Z (toN Z) rw p h f t) ++ wPl Z L) ++ wLr Z (toM Z) lr (toK Z) (toV Z)) [] (by simp only [List.append_assoc, List.append_nil, List.nil_append]) rfl ⟨Nat.le_of_ble_eq_true rfl, Nat.le_of_ble_eq_true rfl⟩ (Nat.le_of_ble_eq_true rfl) rfl rfl ?_
          rintro _ w13 ⟨rfl, hC13⟩
          refine J_st (.int (nI (axN (fun a => caN p h f t (toN Z) a) (toN Z))) :: .ref (x 0) :: []) rfl ?_
          refine J_ws (((((arrI Z n1 24 (fun i => nI (cnN ((fun k a => dkN p h f t (toN Z) a k) i) (a + 1))) ++ wSim Z s (toN Z) (toM Z) hA lA oA tA eA (fun j => some (rw j)) (fun j => some (lr j)) fo ft fe dy ca) ++ wRw Z (toN Z) rw p h f t) ++ wPl Z L) ++ wLr Z (toM Z) lr (toK Z) (toV Z)) ++ w13) (by simp only [List.append_assoc, List.append_nil, List.nil_append]) ?_
          obtain ⟨fs14, hf14⟩ := CI.head hC13
          refine J_room (rc2 := 1 + (12 + 1 * (rc + 0))) (rs2 := 6 + (72 + 1 * (rs + 0))) (by omega) (by omega) ?_
          refine J_cVb (As := [.int (nI (axN (fun a => caN p h f t (toN Z) a) (toN Z)))]) (st := []) (rc2 := 12 + 1 * (rc + 0)) (rs2 := 72 + 1 * (rs + 0)) (w0 := (w13)) (q0 := 0) C iL_law_596 lm_L_225 yc_X8_castBy yv_X8_castBy (k_castBy hl (a := (axN (fun a => caN p h f t (toN Z) a) (toN Z))) hC13 eq0 ok0 (by omega)) rfl rfl hf14 ((((arrI Z n1 24 (fun i => nI (cnN ((fun k a => dkN p h f t (toN Z) a k) i) (a + 1))) ++ wSim Z s (toN Z) (toM Z) hA lA oA tA eA (fun j => some (rw j)) (fun j => some (lr j)) fo ft fe dy ca) ++ wRw Z (toN Z) rw p h f t) ++ wPl Z L) ++ wLr Z (toM Z) lr (toK Z) (toV Z)) [] (by simp only [List.append_assoc, List.append_nil, List.nil_append]) rfl ⟨Nat.le_of_ble_eq_true rfl, Nat.le_of_ble_eq_true rfl⟩ (Nat.le_of_ble_eq_true rfl) rfl rfl ?_
          rintro _ w14 ⟨rfl, hC14⟩
          refine J_st (.int (nI (caN p h f t (toN Z) (axN (fun a => caN p h f t (toN Z) a) (toN Z)))) :: []) rfl ?_
          refine J_ws (((((arrI Z n1 24 (fun i => nI (cnN ((fun k a => dkN p h f t (toN Z) a k) i) (a + 1))) ++ wSim Z s (toN Z) (toM Z) hA lA oA tA eA (fun j => some (rw j)) (fun j => some (lr j)) fo ft fe dy ca) ++ wRw Z (toN Z) rw p h f t) ++ wPl Z L) ++ wLr Z (toM Z) lr (toK Z) (toV Z)) ++ w14) (by simp only [List.append_assoc, List.append_nil, List.nil_append]) ?_
          refine J_aload_n C iL_law_599 rfl rfl ?_
          refine J_iload C iL_law_600 rfl ?_
          obtain ⟨fs15, hf15⟩ := CI.head hC14
          refine J_room (rc2 := 1 + (11 + 1 * (rc + 0))) (rs2 := 6 + (66 + 1 * (rs + 0))) (by omega) (by omega) ?_
          refine J_cVb (As := [.int (nI a)]) (st := .int (nI (caN p h f t (toN Z) (axN (fun a => caN p h f t (toN Z) a) (toN Z)))) :: []) (rc2 := 11 + 1 * (rc + 0)) (rs2 := 66 + 1 * (rs + 0)) (w0 := (w14)) (q0 := 0) C iL_law_602 lm_L_225 yc_X8_castBy yv_X8_castBy (k_castBy hl (a := a) hC14 eq0 ok0 (by omega)) rfl rfl hf15 ((((arrI Z n1 24 (fun i => nI (cnN ((fun k a => dkN p h f t (toN Z) a k) i) (a + 1))) ++ wSim Z s (toN Z) (toM Z) hA lA oA tA eA (fun j => some (rw j)) (fun j => some (lr j)) fo ft fe dy ca) ++ wRw Z (toN Z) rw p h f t) ++ wPl Z L) ++ wLr Z (toM Z) lr (toK Z) (toV Z)) [] (by simp only [List.append_assoc, List.append_nil, List.nil_append]) rfl ⟨Nat.le_of_ble_eq_true rfl, Nat.le_of_ble_eq_true rfl⟩ (Nat.le_of_ble_eq_true rfl) rfl rfl ?_
          rintro _ w15 ⟨rfl, hC15⟩
          refine J_st (.int (nI (caN p h f t (toN Z) a)) :: .int (nI (caN p h f t (toN Z) (axN (fun a => caN p h f t (toN Z) a) (toN Z)))) :: []) rfl ?_
          refine J_ws (((((arrI Z n1 24 (fun i => nI (cnN ((fun k a => dkN p h f t (toN Z) a k) i) (a + 1))) ++ wSim Z s (toN Z) (toM Z) hA lA oA tA eA (fun j => some (rw j)) (fun j => some (lr j)) fo ft fe dy ca) ++ wRw Z (toN Z) rw p h f t) ++ wPl Z L) ++ wLr Z (toM Z) lr (toK Z) (toV Z)) ++ w15) (by simp only [List.append_assoc, List.append_nil, List.nil_append]) ?_
          refine J_icmpge 610 C iL_law_605 rfl (fun h605 => ?_) (fun h605 => absurd (nI_le (a := caN p h f t (toN Z) a) (b := caN p h f t (toN Z) (axN (fun a => caN p h f t (toN Z) a) (toN Z))) (hx2.2.1 a ha) (by omega)) h605)
          refine J_lvm [(13, .int (nI a)), (12, .ref n1), (11, .int (nI (cnN (fun a => decide (loN p h f t (toN Z) a = 0)) (a + 1)))), (10, .int (nI (smN (fun a => caN p h f t (toN Z) a) (a + 1)))), (9, .int (nI (smN (fun a => loN p h f t (toN Z) a) (a + 1)))), (7, .long dg9), (6, .int x9), (5, .int (nI tm9)), (4, .int (nI (toN Z))), (3, .ref s), (2, .ref t9), (1, .ref (x 0)), (0, .ref (zms Z 3))] rfl ?_
          refine J_room (rc2 := rc) (rs2 := rs) (by omega) (by omega) ?_
          exact next w15 hC15
      · refine J_iload C iL_law_499 rfl ?_
        refine J_iload C iL_law_501 rfl ?_
        by_cases hlo : loN p h f t (toN Z) a = 0
        · refine J_ifne 510 C iL_law_503 rfl (fun h503 => absurd (show nI (loN p h f t (toN Z) a) = 0 from congrArg nI hlo) h503) (fun h503 => ?_)
          refine J_iconst 1 C iL_law_506 rfl ?_
          refine J_goto 511 C iL_law_507 rfl ?_
          refine J_iadd C iL_law_511 ?_
          rw [show (nI (cnN (fun a => decide (loN p h f t (toN Z) a = 0)) a)) + 1 = nI ((cnN (fun a => decide (loN p h f t (toN Z) a = 0)) a) + 1) from nI_add _ _]
          refine J_st (.int (nI (cnN (fun a => decide (loN p h f t (toN Z) a = 0)) (a + 1))) :: []) (congrArg (fun z => (.int z :: [] : List Value)) (show (nI ((cnN (fun a => decide (loN p h f t (toN Z) a = 0)) a) + 1) : Int32) = _ by rw [cnN_s]; rw [decide_eq_true hlo]; rfl)) ?_
          refine J_room (rc2 := 20 + 1 * (rc + 0)) (rs2 := 120 + 1 * (rs + 0)) (by omega) (by omega) ?_
          refine J_lvm [(16, .int (nI (toN Z))), (15, .int (nI (mxN (fun b => ltN p h f t a b) (toN Z)))), (14, .int (nI (loN p h f t (toN Z) a))), (13, .int (nI a)), (12, .ref n1), (11, .int (nI (cnN (fun a => decide (loN p h f t (toN Z) a = 0)) a))), (10, .int (nI (smN (fun a => caN p h f t (toN Z) a) a))), (9, .int (nI (smN (fun a => loN p h f t (toN Z) a) a))), (7, .long dg9), (6, .int x9), (5, .int (nI tm9)), (4, .int (nI (toN Z))), (3, .ref s), (2, .ref t9), (1, .ref (x 0)), (0, .ref (zms Z 3))] rfl ?_
          exact hk512 wv2 hB
        · refine J_ifne 510 C iL_law_503 rfl (fun h503 => ?_) (fun h503 => absurd h503 (fun e => hlo ((nI_eq (b := 0) (by have := loN_le p h f t (toN Z) a; omega) (by decide)).mp e)))
          refine J_iconst 0 C iL_law_510 rfl ?_
          refine J_iadd C iL_law_511 ?_
          rw [show (nI (cnN (fun a => decide (loN p h f t (toN Z) a = 0)) a)) + 0 = nI ((cnN (fun a => decide (loN p h f t (toN Z) a = 0)) a) + 0) from nI_add _ _]
          refine J_st (.int (nI (cnN (fun a => decide (loN p h f t (toN Z) a = 0)) (a + 1))) :: []) (congrArg (fun z => (.int z :: [] : List Value)) (show (nI ((cnN (fun a => decide (loN p h f t (toN Z) a = 0)) a) + 0) : Int32) = _ by rw [cnN_s]; rw [decide_eq_false hlo]; rfl)) ?_
          refine J_room (rc2 := 20 + 1 * (rc + 0)) (rs2 := 120 + 1 * (rs + 0)) (by omega) (by omega) ?_
          refine J_lvm [(16, .int (nI (toN Z))), (15, .int (nI (mxN (fun b => ltN p h f t a b) (toN Z)))), (14, .int (nI (loN p h f t (toN Z) a))), (13, .int (nI a)), (12, .ref n1), (11, .int (nI (cnN (fun a => decide (loN p h f t (toN Z) a = 0)) a))), (10, .int (nI (smN (fun a => caN p h f t (toN Z) a) a))), (9, .int (nI (smN (fun a => loN p h f t (toN Z) a) a))), (7, .long dg9), (6, .int x9), (5, .int (nI tm9)), (4, .int (nI (toN Z))), (3, .ref s), (2, .ref t9), (1, .ref (x 0)), (0, .ref (zms Z 3))] rfl ?_
          exact hk512 wv2 hB
    · rintro b wv2 hb0 hb hB ihb
      have hm1 := mxN_le (g := (fun b => ltN p h f t a b)) (c := 24) (k := b) (fun i _ => ltN_le p h f t a i)
      have hm2 := ltN_le p h f t a b
      refine J_room (rc2 := 2 + 1 * (2 * (9 - (b + 1)) + (20 + 1 * (rc + 0)))) (rs2 := 12 + 1 * (12 * (9 - (b + 1)) + (120 + 1 * (rs + 0)))) (by omega) (by omega) ?_
      refine J_iload C iL_law_471 rfl ?_
      refine J_iload C iL_law_473 rfl ?_
      refine J_icmpge 499 C iL_law_475 rfl (fun h475 => absurd h475 (nI_ge (a := b) (b := toN Z) (by omega) (by omega))) (fun h475 => ?_)
      refine J_iload C iL_law_478 rfl ?_
      refine J_aload_n C iL_law_480 rfl rfl ?_
      refine J_iload C iL_law_481 rfl ?_
      refine J_iload C iL_law_483 rfl ?_
      obtain ⟨fs16, hf16⟩ := CI.head hB
      refine J_room (rc2 := 2 + (0 + 1 * (2 * (9 - (b + 1)) + (20 + 1 * (rc + 0))))) (rs2 := 12 + (0 + 1 * (12 * (9 - (b + 1)) + (120 + 1 * (rs + 0))))) (by omega) (by omega) ?_
      refine J_cVb (As := [.int (nI a), .int (nI b)]) (st := .int (nI (mxN (fun b => ltN p h f t a b) b)) :: []) (rc2 := 0 + 1 * (2 * (9 - (b + 1)) + (20 + 1 * (rc + 0)))) (rs2 := 0 + 1 * (12 * (9 - (b + 1)) + (120 + 1 * (rs + 0)))) (w0 := (wv2)) (q0 := 0) C iL_law_485 lm_L_219 yc_X8_hoursLostTo yv_X8_hoursLostTo (k_hoursLostTo hl (a := a) (b := b) hB eq0 ok0 (by omega) (by omega)) rfl rfl hf16 ((((arrI Z n1 24 (fun i => nI (cnN ((fun k a => dkN p h f t (toN Z) a k) i) (a + 1))) ++ wSim Z s (toN Z) (toM Z) hA lA oA tA eA (fun j => some (rw j)) (fun j => some (lr j)) fo ft fe dy ca) ++ wRw Z (toN Z) rw p h f t) ++ wPl Z L) ++ wLr Z (toM Z) lr (toK Z) (toV Z)) [] (by simp only [List.append_assoc, List.append_nil, List.nil_append]) rfl ⟨Nat.le_of_ble_eq_true rfl, Nat.le_of_ble_eq_true rfl⟩ (Nat.le_of_ble_eq_true rfl) rfl rfl ?_
      rintro _ w16 ⟨rfl, hC16⟩
      refine J_st (.int (nI (ltN p h f t a b)) :: .int (nI (mxN (fun b => ltN p h f t a b) b)) :: []) rfl ?_
      refine J_ws (((((arrI Z n1 24 (fun i => nI (cnN ((fun k a => dkN p h f t (toN Z) a k) i) (a + 1))) ++ wSim Z s (toN Z) (toM Z) hA lA oA tA eA (fun j => some (rw j)) (fun j => some (lr j)) fo ft fe dy ca) ++ wRw Z (toN Z) rw p h f t) ++ wPl Z L) ++ wLr Z (toM Z) lr (toK Z) (toV Z)) ++ w16) (by simp only [List.append_assoc, List.append_nil, List.nil_append]) ?_
      refine J_imax C iL_law_488 (tsg_in (i := 1526) (by decide +kernel) rfl) ma_imax_1 ma_i ma_imax_2 (Nat.le_of_ble_eq_true rfl) (Nat.le_of_ble_eq_true rfl) ?_
      rw [show (if nI (mxN (fun b => ltN p h f t a b) b) < nI (ltN p h f t a b) then nI (ltN p h f t a b) else nI (mxN (fun b => ltN p h f t a b) b) : Int32) = nI (mxN (fun b => ltN p h f t a b) (b + 1)) from mx_nI (A := mxN (fun b => ltN p h f t a b) b) (B := ltN p h f t a b) (by omega) (by omega)]
      refine J_istore [(15, .int (nI (mxN (fun b => ltN p h f t a b) (b + 1)))), (16, .int (nI b)), (14, .int (nI (loN p h f t (toN Z) a))), (13, .int (nI a)), (12, .ref n1), (11, .int (nI (cnN (fun a => decide (loN p h f t (toN Z) a = 0)) a))), (10, .int (nI (smN (fun a => caN p h f t (toN Z) a) a))), (9, .int (nI (smN (fun a => loN p h f t (toN Z) a) a))), (7, .long dg9), (6, .int x9), (5, .int (nI tm9)), (4, .int (nI (toN Z))), (3, .ref s), (2, .ref t9), (1, .ref (x 0)), (0, .ref (zms Z 3))] C iL_law_491 (by decide) rfl ?_
      refine J_iinc ((nI b) + 1) [(16, .int ((nI b) + 1)), (15, .int (nI (mxN (fun b => ltN p h f t a b) (b + 1)))), (14, .int (nI (loN p h f t (toN Z) a))), (13, .int (nI a)), (12, .ref n1), (11, .int (nI (cnN (fun a => decide (loN p h f t (toN Z) a = 0)) a))), (10, .int (nI (smN (fun a => caN p h f t (toN Z) a) a))), (9, .int (nI (smN (fun a => loN p h f t (toN Z) a) a))), (7, .long dg9), (6, .int x9), (5, .int (nI tm9)), (4, .int (nI (toN Z))), (3, .ref s), (2, .ref t9), (1, .ref (x 0)), (0, .ref (zms Z 3))] C iL_law_493 rfl rfl (by decide) rfl ?_
      rw [show (nI b) + 1 = nI (b + 1) from nI_add _ _]
      refine J_goto 471 C iL_law_496 rfl ?_
      refine J_lvm [(16, .int (nI (b + 1))), (15, .int (nI (mxN (fun b => ltN p h f t a b) (b + 1)))), (14, .int (nI (loN p h f t (toN Z) a))), (13, .int (nI a)), (12, .ref n1), (11, .int (nI (cnN (fun a => decide (loN p h f t (toN Z) a = 0)) a))), (10, .int (nI (smN (fun a => caN p h f t (toN Z) a) a))), (9, .int (nI (smN (fun a => loN p h f t (toN Z) a) a))), (7, .long dg9), (6, .int x9), (5, .int (nI tm9)), (4, .int (nI (toN Z))), (3, .ref s), (2, .ref t9), (1, .ref (x 0)), (0, .ref (zms Z 3))] rfl ?_
      refine J_room (rc2 := 2 * (9 - (b + 1)) + (20 + 1 * (rc + 0))) (rs2 := 12 * (9 - (b + 1)) + (120 + 1 * (rs + 0))) (by omega) (by omega) ?_
      exact ihb (w16) hC16
  · rintro q wv3 hq0 hq hH ihq
    refine J_room (rc2 := 200 + 1 * (200 * (24 - (q + 1)) + (40 + 1 * (rc + 0)))) (rs2 := 1200 + 1 * (1200 * (24 - (q + 1)) + (240 + 1 * (rs + 0)))) (by omega) (by omega) ?_
    refine J_iload C iL_law_146 rfl ?_
    refine J_bipush 24 C iL_law_148 rfl ?_
    refine J_icmpge 468 C iL_law_150 rfl (fun h150 => absurd h150 (nI_ge (a := q) (b := 24) (by omega) (by decide))) (fun h150 => ?_)
    refine J_room (rc2 := 200 + 1 * (200 * (24 - (q + 1)) + (40 + 1 * (rc + 0)) + 0)) (rs2 := 1200 + 1 * (1200 * (24 - (q + 1)) + (240 + 1 * (rs + 0)) + 0)) (by omega) (by omega) ?_
    refine law_hr C hl hH eq0 ok0 ha hq (fun w17 hC17 => ?_)
    refine J_iinc ((nI q) + 1) [(16, .int ((nI q) + 1)), (15, .int 0), (14, .int (nI (cnN (fun k => dkN p h f t (toN Z) a k) (q + 1)))), (13, .int (nI a)), (12, .ref n1), (11, .int (nI (cnN (fun a => decide (loN p h f t (toN Z) a = 0)) a))), (10, .int (nI (smN (fun a => caN p h f t (toN Z) a) a))), (9, .int (nI (smN (fun a => loN p h f t (toN Z) a) a))), (7, .long dg9), (6, .int x9), (5, .int (nI tm9)), (4, .int (nI (toN Z))), (3, .ref s), (2, .ref t9), (1, .ref (x 0)), (0, .ref (zms Z 3))] C iL_law_462 rfl rfl (by decide) rfl ?_
    rw [show (nI q) + 1 = nI (q + 1) from nI_add _ _]
    refine J_goto 146 C iL_law_465 rfl ?_
    refine J_lvm [(16, .int (nI (q + 1))), (15, .int 0), (14, .int (nI (cnN (fun k => dkN p h f t (toN Z) a k) (q + 1)))), (13, .int (nI a)), (12, .ref n1), (11, .int (nI (cnN (fun a => decide (loN p h f t (toN Z) a = 0)) a))), (10, .int (nI (smN (fun a => caN p h f t (toN Z) a) a))), (9, .int (nI (smN (fun a => loN p h f t (toN Z) a) a))), (7, .long dg9), (6, .int x9), (5, .int (nI tm9)), (4, .int (nI (toN Z))), (3, .ref s), (2, .ref t9), (1, .ref (x 0)), (0, .ref (zms Z 3))] rfl ?_
    refine J_room (rc2 := 200 * (24 - (q + 1)) + (40 + 1 * (rc + 0))) (rs2 := 1200 * (24 - (q + 1)) + (240 + 1 * (rs + 0))) (by omega) (by omega) ?_
    exact ihq (w17) hC17

