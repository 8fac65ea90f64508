set_option maxRecDepth 100000 in
set_option maxHeartbeats 4000000 in
theorem law_hr {Z : GZ} {X : CX} {Q : State → Prop} {rc rs : Nat} {x : Nat → Nat} {u tm : Nat} {er : Int32} {pP pH pF pT op f1 f2 l0 tb : Nat → Int32} {hh c0 c1 c2 c3 : Nat → Nat} {s hA lA oA tA eA : Nat} {rw lr p h f t : Nat → Nat} {fo ft fe : Nat → Option Nat} {L : List TC} {dy ca : Int32} {wc : va_W} {n1 t9 tm9 : Nat} {dg9 : Int64} {x9 : Int32} {a q : Nat} (C : Cx Z X cL_law 29 RL) (hl : (cL X).stackTraces = false) (hC : CI Z x (toN Z) u tm er dy ca pP pH pF pT op f1 f2 l0 hh c0 c1 c2 c3 tb wc) (eq0 : EqS (toN Z) pP pH pF pT p h f t) (ok0 : SnOk (toN Z) p h f t) (ha : a < toN Z) (hq : q < 24) (next : ∀ w9, CI Z x (toN Z) u tm er dy ca pP pH pF pT op f1 f2 l0 hh c0 c1 c2 c3 tb w9 → Jd Z X room_1 29 Q rc rs 462 [(16, .int (nI q)), (15, .int 0), (14, .int (nI (cnN (fun k => dkN p h f t (toN Z) a k) (q + 1)))), (13, .int (nI a)), (12, .ref n1), (11, .int (nI (cnN (fun a => decide (loN p h f t (toN Z) a = 0)) a))), (10, .int (nI (smN (fun a => caN p h f t (toN Z) a) a))), (9, .int (nI (smN (fun a => loN p h f t (toN Z) a) a))), (7, .long dg9), (6, .int x9), (5, .int (nI tm9)), (4, .int (nI (toN Z))), (3, .ref s), (2, .ref t9), (1, .ref (x 0)), (0, .ref (zms Z 3))] [] (((((arrI Z n1 24 (fun i => if i < (q + 1) then nI (cnN ((fun k a => dkN p h f t (toN Z) a k) i) (a + 1)) else nI (cnN ((fun k a => dkN p h f t (toN Z) a k) i) a)) ++ wSim Z s (toN Z) (toM Z) hA lA oA tA eA (fun j => some (rw j)) (fun j => some (lr j)) fo ft fe dy ca) ++ wRw Z (toN Z) rw p h f t) ++ wPl Z L) ++ wLr Z (toM Z) lr (toK Z) (toV Z)) ++ w9)) : Jd Z X room_1 29 Q (200 + 1 * (rc + 0)) (1200 + 1 * (rs + 0)) 153 [(16, .int (nI q)), (15, .int 0), (14, .int (nI (cnN (fun k => dkN p h f t (toN Z) a k) q))), (13, .int (nI a)), (12, .ref n1), (11, .int (nI (cnN (fun a => decide (loN p h f t (toN Z) a = 0)) a))), (10, .int (nI (smN (fun a => caN p h f t (toN Z) a) a))), (9, .int (nI (smN (fun a => loN p h f t (toN Z) a) a))), (7, .long dg9), (6, .int x9), (5, .int (nI tm9)), (4, .int (nI (toN Z))), (3, .ref s), (2, .ref t9), (1, .ref (x 0)), (0, .ref (zms Z 3))] [] (((((arrI Z n1 24 (fun i => if i < q then nI (cnN ((fun k a => dkN p h f t (toN Z) a k) i) (a + 1)) else nI (cnN ((fun k a => dkN p h f t (toN Z) a k) i) a)) ++ wSim Z s (toN Z) (toM Z) hA lA oA tA eA (fun j => some (rw j)) (fun j => some (lr j)) fo ft fe dy ca) ++ wRw Z (toN Z) rw p h f t) ++ wPl Z L) ++ wLr Z (toM Z) lr (toK Z) (toV Z)) ++ wc) := by
  have hto := toN_in Z
  have ha9 := ok0.2 a ha
  refine J_aload_n C iL_law_153 rfl rfl ?_
  refine J_iload C iL_law_154 rfl ?_
  refine J_iload C iL_law_156 rfl ?_
  obtain ⟨fs1, hf1⟩ := CI.head hC
  refine J_room (rc2 := 2 + (198 + 1 * (rc + 0))) (rs2 := 12 + (1188 + 1 * (rs + 0))) (by omega) (by omega) ?_
  refine J_cVb (As := [.int (nI a), .int (nI q)]) (st := []) (rc2 := 198 + 1 * (rc + 0)) (rs2 := 1188 + 1 * (rs + 0)) (w0 := (wc)) (q0 := 0) C iL_law_158 lm_L_181 yc_X8_isInTheDark yv_X8_isInTheDark (k_isInTheDark hl (a := a) (k := q) hC eq0 ok0 (by omega) (by omega)) rfl rfl hf1 ((((arrI Z n1 24 (fun i => if i < q then nI (cnN ((fun k a => dkN p h f t (toN Z) a k) i) (a + 1)) else nI (cnN ((fun k a => dkN p h f t (toN Z) a k) i) a)) ++ wSim Z s (toN Z) (toM Z) hA lA oA tA eA (fun j => some (rw j)) (fun j => some (lr j)) fo ft fe dy ca) ++ wRw Z (toN Z) rw p h f t) ++ wPl Z L) ++ wLr Z (toM Z) lr (toK Z) (toV Z)) [] (by simp only [List.append_assoc, List.append_nil, List.nil_append]) rfl ⟨Nat.le_of_ble_eq_true rfl, Nat.le_of_ble_eq_true rfl⟩ (Nat.le_of_ble_eq_true rfl) rfl rfl ?_
  rintro _ w1 ⟨rfl, hC1⟩
  refine J_st (.int (b2i (dkN p h f t (toN Z) a q)) :: []) rfl ?_
  refine J_ws (((((arrI Z n1 24 (fun i => if i < q then nI (cnN ((fun k a => dkN p h f t (toN Z) a k) i) (a + 1)) else nI (cnN ((fun k a => dkN p h f t (toN Z) a k) i) a)) ++ wSim Z s (toN Z) (toM Z) hA lA oA tA eA (fun j => some (rw j)) (fun j => some (lr j)) fo ft fe dy ca) ++ wRw Z (toN Z) rw p h f t) ++ wPl Z L) ++ wLr Z (toM Z) lr (toK Z) (toV Z)) ++ w1) (by simp only [List.append_assoc, List.append_nil, List.nil_append]) ?_
  refine J_alt (ι := va_W) (P := fun w9 => CI Z x (toN Z) u tm er dy ca pP pH pF pT op f1 f2 l0 hh c0 c1 c2 c3 tb w9) (185 + 1 * (rc + 0)) (1110 + 1 * (rs + 0)) 307 (fun _ => [(19, .int (opI (nrN p h f t a q (toN Z)).1)), (17, .int (b2i (dkN p h f t (toN Z) a q))), (16, .int (nI q)), (15, .int 0), (14, .int (nI (cnN (fun k => dkN p h f t (toN Z) a k) (q + 1)))), (13, .int (nI a)), (12, .ref n1), (11, .int (nI (cnN (fun a => decide (loN p h f t (toN Z) a = 0)) a))), (10, .int (nI (smN (fun a => caN p h f t (toN Z) a) a))), (9, .int (nI (smN (fun a => loN p h f t (toN Z) a) a))), (7, .long dg9), (6, .int x9), (5, .int (nI tm9)), (4, .int (nI (toN Z))), (3, .ref s), (2, .ref t9), (1, .ref (x 0)), (0, .ref (zms Z 3))]) (fun _ => []) (fun w9 => (((((arrI Z n1 24 (fun i => if i < (q + 1) then nI (cnN ((fun k a => dkN p h f t (toN Z) a k) i) (a + 1)) else nI (cnN ((fun k a => dkN p h f t (toN Z) a k) i) a)) ++ wSim Z s (toN Z) (toM Z) hA lA oA tA eA (fun j => some (rw j)) (fun j => some (lr j)) fo ft fe dy ca) ++ wRw Z (toN Z) rw p h f t) ++ wPl Z L) ++ wLr Z (toM Z) lr (toK Z) (toV Z)) ++ w9)) (fun w2 hC2 => ?_) (fun hk307 => ?_)
  · refine J_iconst 0 C iL_law_307 rfl ?_
    refine J_istore [(20, .int 0), (19, .int (opI (nrN p h f t a q (toN Z)).1)), (17, .int (b2i (dkN p h f t (toN Z) a q))), (16, .int (nI q)), (15, .int 0), (14, .int (nI (cnN (fun k => dkN p h f t (toN Z) a k) (q + 1)))), (13, .int (nI a)), (12, .ref n1), (11, .int (nI (cnN (fun a => decide (loN p h f t (toN Z) a = 0)) a))), (10, .int (nI (smN (fun a => caN p h f t (toN Z) a) a))), (9, .int (nI (smN (fun a => loN p h f t (toN Z) a) a))), (7, .long dg9), (6, .int x9), (5, .int (nI tm9)), (4, .int (nI (toN Z))), (3, .ref s), (2, .ref t9), (1, .ref (x 0)), (0, .ref (zms Z 3))] C iL_law_308 (by decide) rfl ?_
    refine J_room (rc2 := 18 * (9 - 0) + (0 + 1 * (rc + 0))) (rs2 := 108 * (9 - 0) + (0 + 1 * (rs + 0))) (by omega) (by omega) ?_
    refine J_lvm [(20, .int (nI 0)), (19, .int (opI (nrN p h f t a q (toN Z)).1)), (17, .int (b2i (dkN p h f t (toN Z) a q))), (16, .int (nI q)), (15, .int 0), (14, .int (nI (cnN (fun k => dkN p h f t (toN Z) a k) (q + 1)))), (13, .int (nI a)), (12, .ref n1), (11, .int (nI (cnN (fun a => decide (loN p h f t (toN Z) a = 0)) a))), (10, .int (nI (smN (fun a => caN p h f t (toN Z) a) a))), (9, .int (nI (smN (fun a => loN p h f t (toN Z) a) a))), (7, .long dg9), (6, .int x9), (5, .int (nI tm9)), (4, .int (nI (toN Z))), (3, .ref s), (2, .ref t9), (1, .ref (x 0)), (0, .ref (zms Z 3))] (by rfl) ?_
    refine J_forR (σ := va_W) (fun b => 18 * (9 - b) + (0 + 1 * (rc + 0))) (fun b => 108 * (9 - b) + (0 + 1 * (rs + 0))) (fun b q9 => [(20, .int (nI b)), (19, .int (opI (nrN p h f t a q (toN Z)).1)), (17, .int (b2i (dkN p h f t (toN Z) a q))), (16, .int (nI q)), (15, .int 0), (14, .int (nI (cnN (fun k => dkN p h f t (toN Z) a k) (q + 1)))), (13, .int (nI a)), (12, .ref n1), (11, .int (nI (cnN (fun a => decide (loN p h f t (toN Z) a = 0)) a))), (10, .int (nI (smN (fun a => caN p h f t (toN Z) a) a))), (9, .int (nI (smN (fun a => loN p h f t (toN Z) a) a))), (7, .long dg9), (6, .int x9), (5, .int (nI tm9)), (4, .int (nI (toN Z))), (3, .ref s), (2, .ref t9), (1, .ref (x 0)), (0, .ref (zms Z 3))]) (fun b q9 => (((((arrI Z n1 24 (fun i => if i < (q + 1) then nI (cnN ((fun k a => dkN p h f t (toN Z) a k) i) (a + 1)) else nI (cnN ((fun k a => dkN p h f t (toN Z) a k) i) a)) ++ wSim Z s (toN Z) (toM Z) hA lA oA tA eA (fun j => some (rw j)) (fun j => some (lr j)) fo ft fe dy ca) ++ wRw Z (toN Z) rw p h f t) ++ wPl Z L) ++ wLr Z (toM Z) lr (toK Z) (toV Z)) ++ q9)) (fun b q9 => CI Z x (toN Z) u tm er dy ca pP pH pF pT op f1 f2 l0 hh c0 c1 c2 c3 tb q9) (toN Z) 0 (w2) (by omega) hC2 ?_ ?_
    · rintro wv2 hB
      refine J_room (rc2 := 0 + 1 * (rc + 0)) (rs2 := 0 + 1 * (rs + 0)) (by omega) (by omega) ?_
      refine J_iload C iL_law_310 rfl ?_
      refine J_iload C iL_law_312 rfl ?_
      refine J_icmpge 462 C iL_law_314 rfl (fun h314 => ?_) (fun h314 => absurd (nI_le (a := toN Z) (b := toN Z) (by omega) (by omega)) h314)
      refine J_lvm [(16, .int (nI q)), (15, .int 0), (14, .int (nI (cnN (fun k => dkN p h f t (toN Z) a k) (q + 1)))), (13, .int (nI a)), (12, .ref n1), (11, .int (nI (cnN (fun a => decide (loN p h f t (toN Z) a = 0)) a))), (10, .int (nI (smN (fun a => caN p h f t (toN Z) a) a))), (9, .int (nI (smN (fun a => loN p h f t (toN Z) a) a))), (7, .long dg9), (6, .int x9), (5, .int (nI tm9)), (4, .int (nI (toN Z))), (3, .ref s), (2, .ref t9), (1, .ref (x 0)), (0, .ref (zms Z 3))] rfl ?_
      refine J_room (rc2 := rc) (rs2 := rs) (by omega) (by omega) ?_
      exact next wv2 hB
    · rintro b wv2 hb0 hb hB ihb
      have hb9 := ok0.2 b hb
      refine J_room (rc2 := 18 + 1 * (18 * (9 - (b + 1)) + (0 + 1 * (rc + 0)))) (rs2 := 108 + 1 * (108 * (9 - (b + 1)) + (0 + 1 * (rs + 0)))) (by omega) (by omega) ?_
      refine J_iload C iL_law_310 rfl ?_
      refine J_iload C iL_law_312 rfl ?_
      refine J_icmpge 462 C iL_law_314 rfl (fun h314 => absurd h314 (nI_ge (a := b) (b := toN Z) (by omega) (by omega))) (fun h314 => ?_)
      refine J_aload_n C iL_law_317 rfl rfl ?_
      refine J_iload C iL_law_318 rfl ?_
      refine J_iload C iL_law_320 rfl ?_
      refine J_iload C iL_law_322 rfl ?_
      obtain ⟨fs3, hf3⟩ := CI.head hB
      refine J_room (rc2 := 3 + (15 + 1 * (18 * (9 - (b + 1)) + (0 + 1 * (rc + 0))))) (rs2 := 18 + (90 + 1 * (108 * (9 - (b + 1)) + (0 + 1 * (rs + 0))))) (by omega) (by omega) ?_
      refine J_cVb (As := [.int (nI b), .int (nI a), .int (nI q)]) (st := []) (rc2 := 15 + 1 * (18 * (9 - (b + 1)) + (0 + 1 * (rc + 0)))) (rs2 := 90 + 1 * (108 * (9 - (b + 1)) + (0 + 1 * (rs + 0)))) (w0 := (wv2)) (q0 := 0) C iL_law_324 lm_L_204 yc_X8_shades yv_X8_shades (k_shades hl (b := b) (a := a) (k := q) hB eq0 ok0 (by omega) (by omega) (by omega)) rfl rfl hf3 ((((arrI Z n1 24 (fun i => if i < (q + 1) then nI (cnN ((fun k a => dkN p h f t (toN Z) a k) i) (a + 1)) else nI (cnN ((fun k a => dkN p h f t (toN Z) a k) i) a)) ++ wSim Z s (toN Z) (toM Z) hA lA oA tA eA (fun j => some (rw j)) (fun j => some (lr j)) fo ft fe dy ca) ++ wRw Z (toN Z) rw p h f t) ++ wPl Z L) ++ wLr Z (toM Z) lr (toK Z) (toV Z)) [] (by simp only [List.append_assoc, List.append_nil, List.nil_append]) rfl ⟨Nat.le_of_ble_eq_true rfl, Nat.le_of_ble_eq_true rfl⟩ (Nat.le_of_ble_eq_true rfl) rfl rfl ?_
      rintro _ w3 ⟨rfl, hC3⟩
      refine J_st (.int (b2i (shB p h f t b a q)) :: []) rfl ?_
      refine J_ws (((((arrI Z n1 24 (fun i => if i < (q + 1) then nI (cnN ((fun k a => dkN p h f t (toN Z) a k) i) (a + 1)) else nI (cnN ((fun k a => dkN p h f t (toN Z) a k) i) a)) ++ wSim Z s (toN Z) (toM Z) hA lA oA tA eA (fun j => some (rw j)) (fun j => some (lr j)) fo ft fe dy ca) ++ wRw Z (toN Z) rw p h f t) ++ wPl Z L) ++ wLr Z (toM Z) lr (toK Z) (toV Z)) ++ w3) (by simp only [List.append_assoc, List.append_nil, List.nil_append]) ?_
      refine J_istore [(21, .int (b2i (shB p h f t b a q))), (20, .int (nI b)), (19, .int (opI (nrN p h f t a q (toN Z)).1)), (17, .int (b2i (dkN p h f t (toN Z) a q))), (16, .int (nI q)), (15, .int 0), (14, .int (nI (cnN (fun k => dkN p h f t (toN Z) a k) (q + 1)))), (13, .int (nI a)), (12, .ref n1), (11, .int (nI (cnN (fun a => decide (loN p h f t (toN Z) a = 0)) a))), (10, .int (nI (smN (fun a => caN p h f t (toN Z) a) a))), (9, .int (nI (smN (fun a => loN p h f t (toN Z) a) a))), (7, .long dg9), (6, .int x9), (5, .int (nI tm9)), (4, .int (nI (toN Z))), (3, .ref s), (2, .ref t9), (1, .ref (x 0)), (0, .ref (zms Z 3))] C iL_law_327 (by decide) rfl ?_
      rcases Bool.eq_false_or_eq_true (shB p h f t b a q) with hsb | hsb
      · have hdk := shB_dk ok0 ha hb hsb
        have hne : ¬ a = b := fun e => by rw [← e, shB_irr] at hsb; cases hsb
        have hasy := shB_asym hsb
        have htl := shB_tall hsb
        have hrc := shB_reach hsb
        have hrl := rc_le ok0 hb hq
        obtain ⟨c9, hnr⟩ : ∃ c9, (nrN p h f t a q (toN Z)).1 = some c9 := by unfold dkN at hdk; cases z : (nrN p h f t a q (toN Z)).1 with | none => rw [z] at hdk; cases hdk | some c9 => exact ⟨c9, rfl⟩
        obtain ⟨hn1, hn2, -, hn4⟩ := nr_near _ hnr
        have hnear := hn4 b hb hsb
        have hc9 := ok0.2 c9 hn2
        have htb := tlN_le ok0 hb q
        have hta := tlN_le ok0 ha q
        have hwb := aw_lt ok0 ha b hb
        have hwc := aw_lt ok0 ha c9 hn2
        refine J_iload C iL_law_329 rfl ?_
        refine J_ifeqb 442 C iL_law_331 rfl (fun h331 => absurd (h331.symm.trans hsb) (by decide)) (fun h331 => ?_)
        refine J_iload C iL_law_334 rfl ?_
        refine J_iload C iL_law_336 rfl ?_
        refine J_icmpeq 440 C iL_law_338 rfl (fun h338 => absurd h338 (fun e => hne ((nI_eq (by omega) (by omega)).mp e))) (fun h338 => ?_)
        refine J_iload C iL_law_341 rfl ?_
        refine J_ifeqb 440 C iL_law_343 rfl (fun h343 => absurd (h343.symm.trans hdk) (by decide)) (fun h343 => ?_)
        refine J_aload_n C iL_law_346 rfl rfl ?_
        refine J_iload C iL_law_347 rfl ?_
        refine J_iload C iL_law_349 rfl ?_
        refine J_iload C iL_law_351 rfl ?_
        obtain ⟨fs4, hf4⟩ := CI.head hC3
        refine J_room (rc2 := 3 + (12 + 1 * (18 * (9 - (b + 1)) + (0 + 1 * (rc + 0))))) (rs2 := 18 + (72 + 1 * (108 * (9 - (b + 1)) + (0 + 1 * (rs + 0))))) (by omega) (by omega) ?_
        refine J_cVb (As := [.int (nI a), .int (nI b), .int (nI q)]) (st := []) (rc2 := 12 + 1 * (18 * (9 - (b + 1)) + (0 + 1 * (rc + 0)))) (rs2 := 72 + 1 * (108 * (9 - (b + 1)) + (0 + 1 * (rs + 0)))) (w0 := (w3)) (q0 := 0) C iL_law_353 lm_L_204 yc_X8_shades yv_X8_shades (k_shades hl (b := a) (a := b) (k := q) hC3 eq0 ok0 (by omega) (by omega) (by omega)) rfl rfl hf4 ((((arrI Z n1 24 (fun i => if i < (q + 1) then nI (cnN ((fun k a => dkN p h f t (toN Z) a k) i) (a + 1)) else nI (cnN ((fun k a => dkN p h f t (toN Z) a k) i) a)) ++ wSim Z s (toN Z) (toM Z) hA lA oA tA eA (fun j => some (rw j)) (fun j => some (lr j)) fo ft fe dy ca) ++ wRw Z (toN Z) rw p h f t) ++ wPl Z L) ++ wLr Z (toM Z) lr (toK Z) (toV Z)) [] (by simp only [List.append_assoc, List.append_nil, List.nil_append]) rfl ⟨Nat.le_of_ble_eq_true rfl, Nat.le_of_ble_eq_true rfl⟩ (Nat.le_of_ble_eq_true rfl) rfl rfl ?_
        rintro _ w4 ⟨rfl, hC4⟩
        refine J_st (.int (b2i (shB p h f t a b q)) :: []) rfl ?_
        refine J_ws (((((arrI Z n1 24 (fun i => if i < (q + 1) then nI (cnN ((fun k a => dkN p h f t (toN Z) a k) i) (a + 1)) else nI (cnN ((fun k a => dkN p h f t (toN Z) a k) i) a)) ++ wSim Z s (toN Z) (toM Z) hA lA oA tA eA (fun j => some (rw j)) (fun j => some (lr j)) fo ft fe dy ca) ++ wRw Z (toN Z) rw p h f t) ++ wPl Z L) ++ wLr Z (toM Z) lr (toK Z) (toV Z)) ++ w4) (by simp only [List.append_assoc, List.append_nil, List.nil_append]) ?_
        refine J_ifneb 440 C iL_law_356 rfl (fun h356 => absurd (h356.symm.trans hasy) (by decide)) (fun h356 => ?_)
        refine J_aload_n C iL_law_359 rfl rfl ?_
        refine J_iload C iL_law_360 rfl ?_
        refine J_iload C iL_law_362 rfl ?_
        obtain ⟨fs5, hf5⟩ := CI.head hC4
        refine J_room (rc2 := 2 + (10 + 1 * (18 * (9 - (b + 1)) + (0 + 1 * (rc + 0))))) (rs2 := 12 + (60 + 1 * (108 * (9 - (b + 1)) + (0 + 1 * (rs + 0))))) (by omega) (by omega) ?_
        refine J_cVb (As := [.int (nI b), .int (nI q)]) (st := []) (rc2 := 10 + 1 * (18 * (9 - (b + 1)) + (0 + 1 * (rc + 0)))) (rs2 := 60 + 1 * (108 * (9 - (b + 1)) + (0 + 1 * (rs + 0)))) (w0 := (w4)) (q0 := 0) C iL_law_364 lm_L_195 yc_X8_heightAt yv_X8_heightAt (k_heightAt hl (a := b) (k := q) hC4 eq0 ok0 (by omega) (by omega)) rfl rfl hf5 ((((arrI Z n1 24 (fun i => if i < (q + 1) then nI (cnN ((fun k a => dkN p h f t (toN Z) a k) i) (a + 1)) else nI (cnN ((fun k a => dkN p h f t (toN Z) a k) i) a)) ++ wSim Z s (toN Z) (toM Z) hA lA oA tA eA (fun j => some (rw j)) (fun j => some (lr j)) fo ft fe dy ca) ++ wRw Z (toN Z) rw p h f t) ++ wPl Z L) ++ wLr Z (toM Z) lr (toK Z) (toV Z)) [] (by simp only [List.append_assoc, List.append_nil, List.nil_append]) rfl ⟨Nat.le_of_ble_eq_true rfl, Nat.le_of_ble_eq_true rfl⟩ (Nat.le_of_ble_eq_true rfl) rfl rfl ?_
        rintro _ w5 ⟨rfl, hC5⟩
        refine J_st (.int (nI (tlN h f t b q)) :: []) rfl ?_
        refine J_ws (((((arrI Z n1 24 (fun i => if i < (q + 1) then nI (cnN ((fun k a => dkN p h f t (toN Z) a k) i) (a + 1)) else nI (cnN ((fun k a => dkN p h f t (toN Z) a k) i) a)) ++ wSim Z s (toN Z) (toM Z) hA lA oA tA eA (fun j => some (rw j)) (fun j => some (lr j)) fo ft fe dy ca) ++ wRw Z (toN Z) rw p h f t) ++ wPl Z L) ++ wLr Z (toM Z) lr (toK Z) (toV Z)) ++ w5) (by simp only [List.append_assoc, List.append_nil, List.nil_append]) ?_
        refine J_aload_n C iL_law_367 rfl rfl ?_
        refine J_iload C iL_law_368 rfl ?_
        refine J_iload C iL_law_370 rfl ?_
        obtain ⟨fs6, hf6⟩ := CI.head hC5
        refine J_room (rc2 := 2 + (8 + 1 * (18 * (9 - (b + 1)) + (0 + 1 * (rc + 0))))) (rs2 := 12 + (48 + 1 * (108 * (9 - (b + 1)) + (0 + 1 * (rs + 0))))) (by omega) (by omega) ?_
        refine J_cVb (As := [.int (nI a), .int (nI q)]) (st := .int (nI (tlN h f t b q)) :: []) (rc2 := 8 + 1 * (18 * (9 - (b + 1)) + (0 + 1 * (rc + 0)))) (rs2 := 48 + 1 * (108 * (9 - (b + 1)) + (0 + 1 * (rs + 0)))) (w0 := (w5)) (q0 := 0) C iL_law_372 lm_L_195 yc_X8_heightAt yv_X8_heightAt (k_heightAt hl (a := a) (k := q) hC5 eq0 ok0 (by omega) (by omega)) rfl rfl hf6 ((((arrI Z n1 24 (fun i => if i < (q + 1) then nI (cnN ((fun k a => dkN p h f t (toN Z) a k) i) (a + 1)) else nI (cnN ((fun k a => dkN p h f t (toN Z) a k) i) a)) ++ wSim Z s (toN Z) (toM Z) hA lA oA tA eA (fun j => some (rw j)) (fun j => some (lr j)) fo ft fe dy ca) ++ wRw Z (toN Z) rw p h f t) ++ wPl Z L) ++ wLr Z (toM Z) lr (toK Z) (toV Z)) [] (by simp only [List.append_assoc, List.append_nil, List.nil_append]) rfl ⟨Nat.le_of_ble_eq_true rfl, Nat.le_of_ble_eq_true rfl⟩ (Nat.le_of_ble_eq_true rfl) rfl rfl ?_
        rintro _ w6 ⟨rfl, hC6⟩
        refine J_st (.int (nI (tlN h f t a q)) :: .int (nI (tlN h f t b q)) :: []) rfl ?_
        refine J_ws (((((arrI Z n1 24 (fun i => if i < (q + 1) then nI (cnN ((fun k a => dkN p h f t (toN Z) a k) i) (a + 1)) else nI (cnN ((fun k a => dkN p h f t (toN Z) a k) i) a)) ++ wSim Z s (toN Z) (toM Z) hA lA oA tA eA (fun j => some (rw j)) (fun j => some (lr j)) fo ft fe dy ca) ++ wRw Z (toN Z) rw p h f t) ++ wPl Z L) ++ wLr Z (toM Z) lr (toK Z) (toV Z)) ++ w6) (by simp only [List.append_assoc, List.append_nil, List.nil_append]) ?_
        refine J_icmple 440 C iL_law_375 rfl (fun h375 => absurd h375 (nI_ge (a := tlN h f t a q) (b := tlN h f t b q) htl (by omega))) (fun h375 => ?_)
        refine J_aload_n C iL_law_378 rfl rfl ?_
        refine J_iload C iL_law_379 rfl ?_
        obtain ⟨fs7, hf7⟩ := CI.head hC6
        refine J_room (rc2 := 1 + (7 + 1 * (18 * (9 - (b + 1)) + (0 + 1 * (rc + 0))))) (rs2 := 6 + (42 + 1 * (108 * (9 - (b + 1)) + (0 + 1 * (rs + 0))))) (by omega) (by omega) ?_
        refine J_cVb (As := [.int (nI b)]) (st := []) (rc2 := 7 + 1 * (18 * (9 - (b + 1)) + (0 + 1 * (rc + 0)))) (rs2 := 42 + 1 * (108 * (9 - (b + 1)) + (0 + 1 * (rs + 0)))) (w0 := (w6)) (q0 := 0) C iL_law_381 lm_L_208 yc_X8_placeOf yv_X8_placeOf (k_placeOf hl (a := b) hC6 eq0 ok0 (by omega)) rfl rfl hf7 ((((arrI Z n1 24 (fun i => if i < (q + 1) then nI (cnN ((fun k a => dkN p h f t (toN Z) a k) i) (a + 1)) else nI (cnN ((fun k a => dkN p h f t (toN Z) a k) i) a)) ++ wSim Z s (toN Z) (toM Z) hA lA oA tA eA (fun j => some (rw j)) (fun j => some (lr j)) fo ft fe dy ca) ++ wRw Z (toN Z) rw p h f t) ++ wPl Z L) ++ wLr Z (toM Z) lr (toK Z) (toV Z)) [] (by simp only [List.append_assoc, List.append_nil, List.nil_append]) rfl ⟨Nat.le_of_ble_eq_true rfl, Nat.le_of_ble_eq_true rfl⟩ (Nat.le_of_ble_eq_true rfl) rfl rfl ?_
        rintro _ w7 ⟨rfl, hC7⟩
        refine J_st (.int (nI (p b)) :: []) rfl ?_
        refine J_ws (((((arrI Z n1 24 (fun i => if i < (q + 1) then nI (cnN ((fun k a => dkN p h f t (toN Z) a k) i) (a + 1)) else nI (cnN ((fun k a => dkN p h f t (toN Z) a k) i) a)) ++ wSim Z s (toN Z) (toM Z) hA lA oA tA eA (fun j => some (rw j)) (fun j => some (lr j)) fo ft fe dy ca) ++ wRw Z (toN Z) rw p h f t) ++ wPl Z L) ++ wLr Z (toM Z) lr (toK Z) (toV Z)) ++ w7) (by simp only [List.append_assoc, List.append_nil, List.nil_append]) ?_
        refine J_aload_n C iL_law_384 rfl rfl ?_
        refine J_iload C iL_law_385 rfl ?_
        obtain ⟨fs8, hf8⟩ := CI.head hC7
        refine J_room (rc2 := 1 + (6 + 1 * (18 * (9 - (b + 1)) + (0 + 1 * (rc + 0))))) (rs2 := 6 + (36 + 1 * (108 * (9 - (b + 1)) + (0 + 1 * (rs + 0))))) (by omega) (by omega) ?_
        refine J_cVb (As := [.int (nI a)]) (st := .int (nI (p b)) :: []) (rc2 := 6 + 1 * (18 * (9 - (b + 1)) + (0 + 1 * (rc + 0)))) (rs2 := 36 + 1 * (108 * (9 - (b + 1)) + (0 + 1 * (rs + 0)))) (w0 := (w7)) (q0 := 0) C iL_law_387 lm_L_208 yc_X8_placeOf yv_X8_placeOf (k_placeOf hl (a := a) hC7 eq0 ok0 (by omega)) rfl rfl hf8 ((((arrI Z n1 24 (fun i => if i < (q + 1) then nI (cnN ((fun k a => dkN p h f t (toN Z) a k) i) (a + 1)) else nI (cnN ((fun k a => dkN p h f t (toN Z) a k) i) a)) ++ wSim Z s (toN Z) (toM Z) hA lA oA tA eA (fun j => some (rw j)) (fun j => some (lr j)) fo ft fe dy ca) ++ wRw Z (toN Z) rw p h f t) ++ wPl Z L) ++ wLr Z (toM Z) lr (toK Z) (toV Z)) [] (by simp only [List.append_assoc, List.append_nil, List.nil_append]) rfl ⟨Nat.le_of_ble_eq_true rfl, Nat.le_of_ble_eq_true rfl⟩ (Nat.le_of_ble_eq_true rfl) rfl rfl ?_
        rintro _ w8 ⟨rfl, hC8⟩
        refine J_st (.int (nI (p a)) :: .int (nI (p b)) :: []) rfl ?_
        refine J_ws (((((arrI Z n1 24 (fun i => if i < (q + 1) then nI (cnN ((fun k a => dkN p h f t (toN Z) a k) i) (a + 1)) else nI (cnN ((fun k a => dkN p h f t (toN Z) a k) i) a)) ++ wSim Z s (toN Z) (toM Z) hA lA oA tA eA (fun j => some (rw j)) (fun j => some (lr j)) fo ft fe dy ca) ++ wRw Z (toN Z) rw p h f t) ++ wPl Z L) ++ wLr Z (toM Z) lr (toK Z) (toV Z)) ++ w8) (by simp only [List.append_assoc, List.append_nil, List.nil_append]) ?_
        refine J_isub C iL_law_390 ?_
        refine J_abs C iL_law_391 (tsg_in (i := 1525) (by decide +kernel) rfl) ma_abs_1 ma_i ma_abs_2 (Nat.le_of_ble_eq_true rfl) (Nat.le_of_ble_eq_true rfl) ?_
        rw [show (if 0 ≤ (nI (p b)) - (nI (p a)) then (nI (p b)) - (nI (p a)) else 0 - ((nI (p b)) - (nI (p a))) : Int32) = nI (awN p a b) from ab_b ha9.1 hb9.1]
        refine J_aload_n C iL_law_394 rfl rfl ?_
        refine J_iload C iL_law_395 rfl ?_
        refine J_iload C iL_law_397 rfl ?_
        obtain ⟨fs9, hf9⟩ := CI.head hC8
        refine J_room (rc2 := 2 + (4 + 1 * (18 * (9 - (b + 1)) + (0 + 1 * (rc + 0))))) (rs2 := 12 + (24 + 1 * (108 * (9 - (b + 1)) + (0 + 1 * (rs + 0))))) (by omega) (by omega) ?_
        refine J_cVb (As := [.int (nI b), .int (nI q)]) (st := .int (nI (awN p a b)) :: []) (rc2 := 4 + 1 * (18 * (9 - (b + 1)) + (0 + 1 * (rc + 0)))) (rs2 := 24 + 1 * (108 * (9 - (b + 1)) + (0 + 1 * (rs + 0)))) (w0 := (w8)) (q0 := 0) C iL_law_399 lm_L_216 yc_X8_shadowOf yv_X8_shadowOf (k_shadowOf hl (a := b) (k := q) hC8 eq0 ok0 (by omega) (by omega)) rfl rfl hf9 ((((arrI Z n1 24 (fun i => if i < (q + 1) then nI (cnN ((fun k a => dkN p h f t (toN Z) a k) i) (a + 1)) else nI (cnN ((fun k a => dkN p h f t (toN Z) a k) i) a)) ++ wSim Z s (toN Z) (toM Z) hA lA oA tA eA (fun j => some (rw j)) (fun j => some (lr j)) fo ft fe dy ca) ++ wRw Z (toN Z) rw p h f t) ++ wPl Z L) ++ wLr Z (toM Z) lr (toK Z) (toV Z)) [] (by simp only [List.append_assoc, List.append_nil, List.nil_append]) rfl ⟨Nat.le_of_ble_eq_true rfl, Nat.le_of_ble_eq_true rfl⟩ (Nat.le_of_ble_eq_true rfl) rfl rfl ?_
        rintro _ w9 ⟨rfl, hC9⟩
        refine J_st (.int (nI (rcN h f t b q)) :: .int (nI (awN p a b)) :: []) rfl ?_
        refine J_ws (((((arrI Z n1 24 (fun i => if i < (q + 1) then nI (cnN ((fun k a => dkN p h f t (toN Z) a k) i) (a + 1)) else nI (cnN ((fun k a => dkN p h f t (toN Z) a k) i) a)) ++ wSim Z s (toN Z) (toM Z) hA lA oA tA eA (fun j => some (rw j)) (fun j => some (lr j)) fo ft fe dy ca) ++ wRw Z (toN Z) rw p h f t) ++ wPl Z L) ++ wLr Z (toM Z) lr (toK Z) (toV Z)) ++ w9) (by simp only [List.append_assoc, List.append_nil, List.nil_append]) ?_
        refine J_icmpgt 440 C iL_law_402 rfl (fun h402 => absurd h402 (nI_nlt (a := rcN h f t b q) (b := awN p a b) hrc (by omega))) (fun h402 => ?_)
        refine J_aload_n C iL_law_405 rfl rfl ?_
        refine J_iload C iL_law_406 rfl ?_
        obtain ⟨fs10, hf10⟩ := CI.head hC9
        refine J_room (rc2 := 1 + (3 + 1 * (18 * (9 - (b + 1)) + (0 + 1 * (rc + 0))))) (rs2 := 6 + (18 + 1 * (108 * (9 - (b + 1)) + (0 + 1 * (rs + 0))))) (by omega) (by omega) ?_
        refine J_cVb (As := [.int (nI b)]) (st := []) (rc2 := 3 + 1 * (18 * (9 - (b + 1)) + (0 + 1 * (rc + 0)))) (rs2 := 18 + 1 * (108 * (9 - (b + 1)) + (0 + 1 * (rs + 0)))) (w0 := (w9)) (q0 := 0) C iL_law_408 lm_L_208 yc_X8_placeOf yv_X8_placeOf (k_placeOf hl (a := b) hC9 eq0 ok0 (by omega)) rfl rfl hf10 ((((arrI Z n1 24 (fun i => if i < (q + 1) then nI (cnN ((fun k a => dkN p h f t (toN Z) a k) i) (a + 1)) else nI (cnN ((fun k a => dkN p h f t (toN Z) a k) i) a)) ++ wSim Z s (toN Z) (toM Z) hA lA oA tA eA (fun j => some (rw j)) (fun j => some (lr j)) fo ft fe dy ca) ++ wRw Z (toN Z) rw p h f t) ++ wPl Z L) ++ wLr Z (toM Z) lr (toK Z) (toV Z)) [] (by simp only [List.append_assoc, List.append_nil, List.nil_append]) rfl ⟨Nat.le_of_ble_eq_true rfl, Nat.le_of_ble_eq_true rfl⟩ (Nat.le_of_ble_eq_true rfl) rfl rfl ?_
        rintro _ w10 ⟨rfl, hC10⟩
        refine J_st (.int (nI (p b)) :: []) rfl ?_
        refine J_ws (((((arrI Z n1 24 (fun i => if i < (q + 1) then nI (cnN ((fun k a => dkN p h f t (toN Z) a k) i) (a + 1)) else nI (cnN ((fun k a => dkN p h f t (toN Z) a k) i) a)) ++ wSim Z s (toN Z) (toM Z) hA lA oA tA eA (fun j => some (rw j)) (fun j => some (lr j)) fo ft fe dy ca) ++ wRw Z (toN Z) rw p h f t) ++ wPl Z L) ++ wLr Z (toM Z) lr (toK Z) (toV Z)) ++ w10) (by simp only [List.append_assoc, List.append_nil, List.nil_append]) ?_
        refine J_aload_n C iL_law_411 rfl rfl ?_
        refine J_iload C iL_law_412 rfl ?_
        obtain ⟨fs11, hf11⟩ := CI.head hC10
        refine J_room (rc2 := 1 + (2 + 1 * (18 * (9 - (b + 1)) + (0 + 1 * (rc + 0))))) (rs2 := 6 + (12 + 1 * (108 * (9 - (b + 1)) + (0 + 1 * (rs + 0))))) (by omega) (by omega) ?_
        refine J_cVb (As := [.int (nI a)]) (st := .int (nI (p b)) :: []) (rc2 := 2 + 1 * (18 * (9 - (b + 1)) + (0 + 1 * (rc + 0)))) (rs2 := 12 + 1 * (108 * (9 - (b + 1)) + (0 + 1 * (rs + 0)))) (w0 := (w10)) (q0 := 0) C iL_law_414 lm_L_208 yc_X8_placeOf yv_X8_placeOf (k_placeOf hl (a := a) hC10 eq0 ok0 (by omega)) rfl rfl hf11 ((((arrI Z n1 24 (fun i => if i < (q + 1) then nI (cnN ((fun k a => dkN p h f t (toN Z) a k) i) (a + 1)) else nI (cnN ((fun k a => dkN p h f t (toN Z) a k) i) a)) ++ wSim Z s (toN Z) (toM Z) hA lA oA tA eA (fun j => some (rw j)) (fun j => some (lr j)) fo ft fe dy ca) ++ wRw Z (toN Z) rw p h f t) ++ wPl Z L) ++ wLr Z (toM Z) lr (toK Z) (toV Z)) [] (by simp only [List.append_assoc, List.append_nil, List.nil_append]) rfl ⟨Nat.le_of_ble_eq_true rfl, Nat.le_of_ble_eq_true rfl⟩ (Nat.le_of_ble_eq_true rfl) rfl rfl ?_
        rintro _ w11 ⟨rfl, hC11⟩
        refine J_st (.int (nI (p a)) :: .int (nI (p b)) :: []) rfl ?_
        refine J_ws (((((arrI Z n1 24 (fun i => if i < (q + 1) then nI (cnN ((fun k a => dkN p h f t (toN Z) a k) i) (a + 1)) else nI (cnN ((fun k a => dkN p h f t (toN Z) a k) i) a)) ++ wSim Z s (toN Z) (toM Z) hA lA oA tA eA (fun j => some (rw j)) (fun j => some (lr j)) fo ft fe dy ca) ++ wRw Z (toN Z) rw p h f t) ++ wPl Z L) ++ wLr Z (toM Z) lr (toK Z) (toV Z)) ++ w11) (by simp only [List.append_assoc, List.append_nil, List.nil_append]) ?_
        refine J_isub C iL_law_417 ?_
        refine J_abs C iL_law_418 (tsg_in (i := 1525) (by decide +kernel) rfl) ma_abs_1 ma_i ma_abs_2 (Nat.le_of_ble_eq_true rfl) (Nat.le_of_ble_eq_true rfl) ?_
        rw [show (if 0 ≤ (nI (p b)) - (nI (p a)) then (nI (p b)) - (nI (p a)) else 0 - ((nI (p b)) - (nI (p a))) : Int32) = nI (awN p a b) from ab_b ha9.1 hb9.1]
        refine J_aload_n C iL_law_421 rfl rfl ?_
        refine J_iload C iL_law_422 rfl ?_
        refine J_st (.int (nI c9) :: .ref (x 0) :: .int (nI (awN p a b)) :: []) (congrArg (fun z => (.int z :: .ref (x 0) :: .int (nI (awN p a b)) :: [] : List Value)) (op_of hnr)) ?_
        obtain ⟨fs12, hf12⟩ := CI.head hC11
        refine J_room (rc2 := 1 + (1 + 1 * (18 * (9 - (b + 1)) + (0 + 1 * (rc + 0))))) (rs2 := 6 + (6 + 1 * (108 * (9 - (b + 1)) + (0 + 1 * (rs + 0))))) (by omega) (by omega) ?_
        refine J_cVb (As := [.int (nI c9)]) (st := .int (nI (awN p a b)) :: []) (rc2 := 1 + 1 * (18 * (9 - (b + 1)) + (0 + 1 * (rc + 0)))) (rs2 := 6 + 1 * (108 * (9 - (b + 1)) + (0 + 1 * (rs + 0)))) (w0 := (w11)) (q0 := 0) C iL_law_424 lm_L_208 yc_X8_placeOf yv_X8_placeOf (k_placeOf hl (a := c9) hC11 eq0 ok0 (by omega)) rfl rfl hf12 ((((arrI Z n1 24 (fun i => if i < (q + 1) then nI (cnN ((fun k a => dkN p h f t (toN Z) a k) i) (a + 1)) else nI (cnN ((fun k a => dkN p h f t (toN Z) a k) i) a)) ++ wSim Z s (toN Z) (toM Z) hA lA oA tA eA (fun j => some (rw j)) (fun j => some (lr j)) fo ft fe dy ca) ++ wRw Z (toN Z) rw p h f t) ++ wPl Z L) ++ wLr Z (toM Z) lr (toK Z) (toV Z)) [] (by simp only [List.append_assoc, List.append_nil, List.nil_append]) rfl ⟨Nat.le_of_ble_eq_true rfl, Nat.le_of_ble_eq_true rfl⟩ (Nat.le_of_ble_eq_true rfl) rfl rfl ?_
        rintro _ w12 ⟨rfl, hC12⟩
        refine J_st (.int (nI (p c9)) :: .int (nI (awN p a b)) :: []) rfl ?_
        refine J_ws (((((arrI Z n1 24 (fun i => if i < (q + 1) then nI (cnN ((fun k a => dkN p h f t (toN Z) a k) i) (a + 1)) else nI (cnN ((fun k a => dkN p h f t (toN Z) a k) i) a)) ++ wSim Z s (toN Z) (toM Z) hA lA oA tA eA (fun j => some (rw j)) (fun j => some (lr j)) fo ft fe dy ca) ++ wRw Z (toN Z) rw p h f t) ++ wPl Z L) ++ wLr Z (toM Z) lr (toK Z) (toV Z)) ++ w12) (by simp only [List.append_assoc, List.append_nil, List.nil_append]) ?_
        refine J_aload_n C iL_law_427 rfl rfl ?_
        refine J_iload C iL_law_428 rfl ?_
        obtain ⟨fs13, hf13⟩ := CI.head hC12
        refine J_room (rc2 := 1 + (0 + 1 * (18 * (9 - (b + 1)) + (0 + 1 * (rc + 0))))) (rs2 := 6 + (0 + 1 * (108 * (9 - (b + 1)) + (0 + 1 * (rs + 0))))) (by omega) (by omega) ?_
        refine J_cVb (As := [.int (nI a)]) (st := .int (nI (p c9)) :: .int (nI (awN p a b)) :: []) (rc2 := 0 + 1 * (18 * (9 - (b + 1)) + (0 + 1 * (rc + 0)))) (rs2 := 0 + 1 * (108 * (9 - (b + 1)) + (0 + 1 * (rs + 0)))) (w0 := (w12)) (q0 := 0) C iL_law_430 lm_L_208 yc_X8_placeOf yv_X8_placeOf (k_placeOf hl (a := a) hC12 eq0 ok0 (by omega)) rfl rfl hf13 ((((arrI Z n1 24 (fun i => if i < (q + 1) then nI (cnN ((fun k a => dkN p h f t (toN Z) a k) i) (a + 1)) else nI (cnN ((fun k a => dkN p h f t (toN Z) a k) i) a)) ++ wSim Z s (toN Z) (toM Z) hA lA oA tA eA (fun j => some (rw j)) (fun j => some (lr j)) fo ft fe dy ca) ++ wRw Z (toN Z) rw p h f t) ++ wPl Z L) ++ wLr Z (toM Z) lr (toK Z) (toV Z)) [] (by simp only [List.append_assoc, List.append_nil, List.nil_append]) rfl ⟨Nat.le_of_ble_eq_true rfl, Nat.le_of_ble_eq_true rfl⟩ (Nat.le_of_ble_eq_true rfl) rfl rfl ?_
        rintro _ w13 ⟨rfl, hC13⟩
        refine J_st (.int (nI (p a)) :: .int (nI (p c9)) :: .int (nI (awN p a b)) :: []) rfl ?_
        refine J_ws (((((arrI Z n1 24 (fun i => if i < (q + 1) then nI (cnN ((fun k a => dkN p h f t (toN Z) a k) i) (a + 1)) else nI (cnN ((fun k a => dkN p h f t (toN Z) a k) i) a)) ++ wSim Z s (toN Z) (toM Z) hA lA oA tA eA (fun j => some (rw j)) (fun j => some (lr j)) fo ft fe dy ca) ++ wRw Z (toN Z) rw p h f t) ++ wPl Z L) ++ wLr Z (toM Z) lr (toK Z) (toV Z)) ++ w13) (by simp only [List.append_assoc, List.append_nil, List.nil_append]) ?_
        refine J_isub C iL_law_433 ?_
        refine J_abs C iL_law_434 (tsg_in (i := 1525) (by decide +kernel) rfl) ma_abs_1 ma_i ma_abs_2 (Nat.le_of_ble_eq_true rfl) (Nat.le_of_ble_eq_true rfl) ?_
        rw [show (if 0 ≤ (nI (p c9)) - (nI (p a)) then (nI (p c9)) - (nI (p a)) else 0 - ((nI (p c9)) - (nI (p a))) : Int32) = nI (awN p a c9) from ab_b ha9.1 hc9.1]
        refine J_icmpge 442 C iL_law_437 rfl (fun h437 => ?_) (fun h437 => absurd (nI_le (a := awN p a c9) (b := awN p a b) hnear (by omega)) h437)
        refine J_iload C iL_law_442 rfl ?_
        refine J_iload C iL_law_444 rfl ?_
        by_cases hby : opI (nrN p h f t a q (toN Z)).1 = nI b
        · refine J_icmpne 456 C iL_law_446 rfl (fun h446 => absurd hby h446) (fun h446 => ?_)
          refine J_iload C iL_law_449 rfl ?_
          refine J_ifneb 456 C iL_law_451 rfl (fun h451 => ?_) (fun h451 => absurd (h451.symm.trans hsb) (by decide))
          refine J_iinc ((nI b) + 1) [(20, .int ((nI b) + 1)), (21, .int (b2i (shB p h f t b a q))), (19, .int (opI (nrN p h f t a q (toN Z)).1)), (17, .int (b2i (dkN p h f t (toN Z) a q))), (16, .int (nI q)), (15, .int 0), (14, .int (nI (cnN (fun k => dkN p h f t (toN Z) a k) (q + 1)))), (13, .int (nI a)), (12, .ref n1), (11, .int (nI (cnN (fun a => decide (loN p h f t (toN Z) a = 0)) a))), (10, .int (nI (smN (fun a => caN p h f t (toN Z) a) a))), (9, .int (nI (smN (fun a => loN p h f t (toN Z) a) a))), (7, .long dg9), (6, .int x9), (5, .int (nI tm9)), (4, .int (nI (toN Z))), (3, .ref s), (2, .ref t9), (1, .ref (x 0)), (0, .ref (zms Z 3))] C iL_law_456 rfl rfl (by decide) rfl ?_
          rw [show (nI b) + 1 = nI (b + 1) from nI_add _ _]
          refine J_goto 310 C iL_law_459 rfl ?_
          refine J_lvm [(20, .int (nI (b + 1))), (19, .int (opI (nrN p h f t a q (toN Z)).1)), (17, .int (b2i (dkN p h f t (toN Z) a q))), (16, .int (nI q)), (15, .int 0), (14, .int (nI (cnN (fun k => dkN p h f t (toN Z) a k) (q + 1)))), (13, .int (nI a)), (12, .ref n1), (11, .int (nI (cnN (fun a => decide (loN p h f t (toN Z) a = 0)) a))), (10, .int (nI (smN (fun a => caN p h f t (toN Z) a) a))), (9, .int (nI (smN (fun a => loN p h f t (toN Z) a) a))), (7, .long dg9), (6, .int x9), (5, .int (nI tm9)), (4, .int (nI (toN Z))), (3, .ref s), (2, .ref t9), (1, .ref (x 0)), (0, .ref (zms Z 3))] rfl ?_
          refine J_room (rc2 := 18 * (9 - (b + 1)) + (0 + 1 * (rc + 0))) (rs2 := 108 * (9 - (b + 1)) + (0 + 1 * (rs + 0))) (by omega) (by omega) ?_
          exact ihb (w13) hC13
        · refine J_icmpne 456 C iL_law_446 rfl (fun h446 => ?_) (fun h446 => absurd h446 hby)
          refine J_iinc ((nI b) + 1) [(20, .int ((nI b) + 1)), (21, .int (b2i (shB p h f t b a q))), (19, .int (opI (nrN p h f t a q (toN Z)).1)), (17, .int (b2i (dkN p h f t (toN Z) a q))), (16, .int (nI q)), (15, .int 0), (14, .int (nI (cnN (fun k => dkN p h f t (toN Z) a k) (q + 1)))), (13, .int (nI a)), (12, .ref n1), (11, .int (nI (cnN (fun a => decide (loN p h f t (toN Z) a = 0)) a))), (10, .int (nI (smN (fun a => caN p h f t (toN Z) a) a))), (9, .int (nI (smN (fun a => loN p h f t (toN Z) a) a))), (7, .long dg9), (6, .int x9), (5, .int (nI tm9)), (4, .int (nI (toN Z))), (3, .ref s), (2, .ref t9), (1, .ref (x 0)), (0, .ref (zms Z 3))] C iL_law_456 rfl rfl (by decide) rfl ?_
          rw [show (nI b) + 1 = nI (b + 1) from nI_add _ _]
          refine J_goto 310 C iL_law_459 rfl ?_
          refine J_lvm [(20, .int (nI (b + 1))), (19, .int (opI (nrN p h f t a q (toN Z)).1)), (17, .int (b2i (dkN p h f t (toN Z) a q))), (16, .int (nI q)), (15, .int 0), (14, .int (nI (cnN (fun k => dkN p h f t (toN Z) a k) (q + 1)))), (13, .int (nI a)), (12, .ref n1), (11, .int (nI (cnN (fun a => decide (loN p h f t (toN Z) a = 0)) a))), (10, .int (nI (smN (fun a => caN p h f t (toN Z) a) a))), (9, .int (nI (smN (fun a => loN p h f t (toN Z) a) a))), (7, .long dg9), (6, .int x9), (5, .int (nI tm9)), (4, .int (nI (toN Z))), (3, .ref s), (2, .ref t9), (1, .ref (x 0)), (0, .ref (zms Z 3))] rfl ?_
          refine J_room (rc2 := 18 * (9 - (b + 1)) + (0 + 1 * (rc + 0))) (rs2 := 108 * (9 - (b + 1)) + (0 + 1 * (rs + 0))) (by omega) (by omega) ?_
          exact ihb (w13) hC13
      · refine J_iload C iL_law_329 rfl ?_
        refine J_ifeqb 442 C iL_law_331 rfl (fun h331 => ?_) (fun h331 => absurd (h331.symm.trans hsb) (by decide))
        refine J_iload C iL_law_442 rfl ?_
        refine J_iload C iL_law_444 rfl ?_
        by_cases hby : opI (nrN p h f t a q (toN Z)).1 = nI b
        · exfalso
          cases z : (nrN p h f t a q (toN Z)).1 with
          | none => rw [z] at hby; exact absurd hby (fun e => nI_pos (n := b) (by omega) (e ▸ (by decide)))
          | some c8 =>
            rw [z] at hby
            obtain ⟨y1, y2, -, -⟩ := nr_near _ z
            have e8 := (nI_eq (by omega) (by omega)).mp (show nI c8 = nI b from hby)
            rw [e8, hsb] at y1
            cases y1
        · refine J_icmpne 456 C iL_law_446 rfl (fun h446 => ?_) (fun h446 => absurd h446 hby)
          refine J_iinc ((nI b) + 1) [(20, .int ((nI b) + 1)), (21, .int (b2i (shB p h f t b a q))), (19, .int (opI (nrN p h f t a q (toN Z)).1)), (17, .int (b2i (dkN p h f t (toN Z) a q))), (16, .int (nI q)), (15, .int 0), (14, .int (nI (cnN (fun k => dkN p h f t (toN Z) a k) (q + 1)))), (13, .int (nI a)), (12, .ref n1), (11, .int (nI (cnN (fun a => decide (loN p h f t (toN Z) a = 0)) a))), (10, .int (nI (smN (fun a => caN p h f t (toN Z) a) a))), (9, .int (nI (smN (fun a => loN p h f t (toN Z) a) a))), (7, .long dg9), (6, .int x9), (5, .int (nI tm9)), (4, .int (nI (toN Z))), (3, .ref s), (2, .ref t9), (1, .ref (x 0)), (0, .ref (zms Z 3))] C iL_law_456 rfl rfl (by decide) rfl ?_
          rw [show (nI b) + 1 = nI (b + 1) from nI_add _ _]
          refine J_goto 310 C iL_law_459 rfl ?_
          refine J_lvm [(20, .int (nI (b + 1))), (19, .int (opI (nrN p h f t a q (toN Z)).1)), (17, .int (b2i (dkN p h f t (toN Z) a q))), (16, .int (nI q)), (15, .int 0), (14, .int (nI (cnN (fun k => dkN p h f t (toN Z) a k) (q + 1)))), (13, .int (nI a)), (12, .ref n1), (11, .int (nI (cnN (fun a => decide (loN p h f t (toN Z) a = 0)) a))), (10, .int (nI (smN (fun a => caN p h f t (toN Z) a) a))), (9, .int (nI (smN (fun a => loN p h f t (toN Z) a) a))), (7, .long dg9), (6, .int x9), (5, .int (nI tm9)), (4, .int (nI (toN Z))), (3, .ref s), (2, .ref t9), (1, .ref (x 0)), (0, .ref (zms Z 3))] rfl ?_
          refine J_room (rc2 := 18 * (9 - (b + 1)) + (0 + 1 * (rc + 0))) (rs2 := 108 * (9 - (b + 1)) + (0 + 1 * (rs + 0))) (by omega) (by omega) ?_
          exact ihb (w3) hC3
  · refine J_istore [(17, .int (b2i (dkN p h f t (toN Z) a q))), (16, .int (nI q)), (15, .int 0), (14, .int (nI (cnN (fun k => dkN p h f t (toN Z) a k) q))), (13, .int (nI a)), (12, .ref n1), (11, .int (nI (cnN (fun a => decide (loN p h f t (toN Z) a = 0)) a))), (10, .int (nI (smN (fun a => caN p h f t (toN Z) a) a))), (9, .int (nI (smN (fun a => loN p h f t (toN Z) a) a))), (7, .long dg9), (6, .int x9), (5, .int (nI tm9)), (4, .int (nI (toN Z))), (3, .ref s), (2, .ref t9), (1, .ref (x 0)), (0, .ref (zms Z 3))] C iL_law_161 (by decide) rfl ?_
    rcases Bool.eq_false_or_eq_true (dkN p h f t (toN Z) a q) with hdk | hdk
    · have hq6 : 6 ≤ q ∧ q ≤ 18 ∧ ¬ q = 12 := ⟨Nat.not_lt.mp (fun z => by rw [dkN_out ok0 ha (Or.inl z)] at hdk; cases hdk), Nat.not_lt.mp (fun z => by rw [dkN_out ok0 ha (Or.inr z)] at hdk; cases hdk), fun z => by rw [z, dk_12 ok0 ha] at hdk; cases hdk⟩
      refine J_iload C iL_law_163 rfl ?_
      refine J_iload C iL_law_165 rfl ?_
      refine J_ifeqb 174 C iL_law_167 rfl (fun h167 => absurd (h167.symm.trans hdk) (by decide)) (fun h167 => ?_)
      refine J_iconst 1 C iL_law_170 rfl ?_
      refine J_goto 175 C iL_law_171 rfl ?_
      refine J_iadd C iL_law_175 ?_
      rw [show (nI (cnN (fun k => dkN p h f t (toN Z) a k) q)) + 1 = nI ((cnN (fun k => dkN p h f t (toN Z) a k) q) + 1) from nI_add _ _]
      refine J_istore [(14, .int (nI ((cnN (fun k => dkN p h f t (toN Z) a k) q) + 1))), (17, .int (b2i (dkN p h f t (toN Z) a q))), (16, .int (nI q)), (15, .int 0), (13, .int (nI a)), (12, .ref n1), (11, .int (nI (cnN (fun a => decide (loN p h f t (toN Z) a = 0)) a))), (10, .int (nI (smN (fun a => caN p h f t (toN Z) a) a))), (9, .int (nI (smN (fun a => loN p h f t (toN Z) a) a))), (7, .long dg9), (6, .int x9), (5, .int (nI tm9)), (4, .int (nI (toN Z))), (3, .ref s), (2, .ref t9), (1, .ref (x 0)), (0, .ref (zms Z 3))] C iL_law_176 (by decide) rfl ?_
      refine J_aload C iL_law_178 rfl ?_
      refine J_iload C iL_law_180 rfl ?_
      refine J_dup2 C iL_law_182 rfl rfl ?_
      refine J_iald 0 C iL_law_183 rfl (vp_in_nI (n := q) (by omega) (by omega)) ?_
      rw [nI_clamp (n := q) (by omega)]
      refine J_iload C iL_law_184 rfl ?_
      refine J_ifeqb 193 C iL_law_186 rfl (fun h186 => absurd (h186.symm.trans hdk) (by decide)) (fun h186 => ?_)
      refine J_iconst 1 C iL_law_189 rfl ?_
      refine J_goto 194 C iL_law_190 rfl ?_
      refine J_iadd C iL_law_194 ?_
      refine J_iast (((((arrI Z n1 24 (upd (fun i => if i < q then nI (cnN ((fun k a => dkN p h f t (toN Z) a k) i) (a + 1)) else nI (cnN ((fun k a => dkN p h f t (toN Z) a k) i) a)) (nI q).toNatClampNeg (((fun i => if i < q then nI (cnN ((fun k a => dkN p h f t (toN Z) a k) i) (a + 1)) else nI (cnN ((fun k a => dkN p h f t (toN Z) a k) i) a)) q) + 1)) ++ wSim Z s (toN Z) (toM Z) hA lA oA tA eA (fun j => some (rw j)) (fun j => some (lr j)) fo ft fe dy ca) ++ wRw Z (toN Z) rw p h f t) ++ wPl Z L) ++ wLr Z (toM Z) lr (toK Z) (toV Z)) ++ w1) 0 C iL_law_195 rfl (vp_in_nI (n := q) (by omega) (by omega)) rfl ?_
      rw [nI_clamp (n := q) (by omega)]
      rw [show (((fun i => if i < q then nI (cnN ((fun k a => dkN p h f t (toN Z) a k) i) (a + 1)) else nI (cnN ((fun k a => dkN p h f t (toN Z) a k) i) a)) q) + 1 : Int32) = nI (cnN ((fun k a => dkN p h f t (toN Z) a k) q) a + 1) by dsimp only; rw [if_neg (Nat.lt_irrefl _)]; exact nI_add _ 1]
      rw [cnt_up (y := (fun k a => dkN p h f t (toN Z) a k)) _ (by rw [hdk]; rfl)]
      refine J_aload_n C iL_law_196 rfl rfl ?_
      refine J_iload C iL_law_197 rfl ?_
      obtain ⟨fs14, hf14⟩ := CI.head hC1
      refine J_room (rc2 := 1 + (197 + 1 * (rc + 0))) (rs2 := 6 + (1182 + 1 * (rs + 0))) (by omega) (by omega) ?_
      refine J_cVb (As := [.int (nI a)]) (st := []) (rc2 := 197 + 1 * (rc + 0)) (rs2 := 1182 + 1 * (rs + 0)) (w0 := (w1)) (q0 := 0) C iL_law_199 lm_L_185 yc_X8_hasCurfew yv_X8_hasCurfew (k_hasCurfew hl (a := a) hC1 eq0 ok0 (by omega)) rfl rfl hf14 ((((arrI Z n1 24 (fun i => if i < (q + 1) then nI (cnN ((fun k a => dkN p h f t (toN Z) a k) i) (a + 1)) else nI (cnN ((fun k a => dkN p h f t (toN Z) a k) i) a)) ++ wSim Z s (toN Z) (toM Z) hA lA oA tA eA (fun j => some (rw j)) (fun j => some (lr j)) fo ft fe dy ca) ++ wRw Z (toN Z) rw p h f t) ++ wPl Z L) ++ wLr Z (toM Z) lr (toK Z) (toV Z)) [] (by simp only [List.append_assoc, List.append_nil, List.nil_append]) rfl ⟨Nat.le_of_ble_eq_true rfl, Nat.le_of_ble_eq_true rfl⟩ (Nat.le_of_ble_eq_true rfl) rfl rfl ?_
      rintro _ w14 ⟨rfl, hC14⟩
      refine J_st (.int (b2i (!decide (f a = 0))) :: []) rfl ?_
      refine J_ws (((((arrI Z n1 24 (fun i => if i < (q + 1) then nI (cnN ((fun k a => dkN p h f t (toN Z) a k) i) (a + 1)) else nI (cnN ((fun k a => dkN p h f t (toN Z) a k) i) a)) ++ wSim Z s (toN Z) (toM Z) hA lA oA tA eA (fun j => some (rw j)) (fun j => some (lr j)) fo ft fe dy ca) ++ wRw Z (toN Z) rw p h f t) ++ wPl Z L) ++ wLr Z (toM Z) lr (toK Z) (toV Z)) ++ w14) (by simp only [List.append_assoc, List.append_nil, List.nil_append]) ?_
      by_cases hfa : f a = 0
      · refine J_ifeqb 231 C iL_law_202 rfl (fun h202 => ?_) (fun h202 => absurd (h202.symm.trans (by rw [decide_eq_true hfa]; first | done | rfl)) (by decide))
        refine J_iconst 0 C iL_law_231 rfl ?_
        refine J_istore [(18, .int 0), (14, .int (nI ((cnN (fun k => dkN p h f t (toN Z) a k) q) + 1))), (17, .int (b2i (dkN p h f t (toN Z) a q))), (16, .int (nI q)), (15, .int 0), (13, .int (nI a)), (12, .ref n1), (11, .int (nI (cnN (fun a => decide (loN p h f t (toN Z) a = 0)) a))), (10, .int (nI (smN (fun a => caN p h f t (toN Z) a) a))), (9, .int (nI (smN (fun a => loN p h f t (toN Z) a) a))), (7, .long dg9), (6, .int x9), (5, .int (nI tm9)), (4, .int (nI (toN Z))), (3, .ref s), (2, .ref t9), (1, .ref (x 0)), (0, .ref (zms Z 3))] C iL_law_232 (by decide) rfl ?_
        refine J_iload C iL_law_234 rfl ?_
        refine J_ifeqb 260 C iL_law_236 rfl (fun h236 => absurd (h236.symm.trans hdk) (by decide)) (fun h236 => ?_)
        refine J_iload C iL_law_239 rfl ?_
        refine J_bipush 6 C iL_law_241 rfl ?_
        refine J_icmplt 286 C iL_law_243 rfl (fun h243 => absurd h243 (nI_nlt (a := q) (b := 6) (by omega) (by omega))) (fun h243 => ?_)
        refine J_iload C iL_law_246 rfl ?_
        refine J_bipush 18 C iL_law_248 rfl ?_
        refine J_icmpgt 286 C iL_law_250 rfl (fun h250 => absurd h250 (nI_nlt (a := 18) (b := q) (by omega) (by decide))) (fun h250 => ?_)
        refine J_iload C iL_law_253 rfl ?_
        refine J_bipush 12 C iL_law_255 rfl ?_
        refine J_icmpeq 286 C iL_law_257 rfl (fun h257 => absurd h257 (fun e => hq6.2.2 ((nI_eq (a := q) (b := 12) (by omega) (by decide)).mp e))) (fun h257 => ?_)
        refine J_aload_n C iL_law_260 rfl rfl ?_
        refine J_iload C iL_law_261 rfl ?_
        refine J_iload C iL_law_263 rfl ?_
        obtain ⟨fs15, hf15⟩ := CI.head hC14
        refine J_room (rc2 := 2 + (195 + 1 * (rc + 0))) (rs2 := 12 + (1170 + 1 * (rs + 0))) (by omega) (by omega) ?_
        refine J_cVb (As := [.int (nI a), .int (nI q)]) (st := []) (rc2 := 195 + 1 * (rc + 0)) (rs2 := 1170 + 1 * (rs + 0)) (w0 := (w14)) (q0 := 0) C iL_law_265 lm_L_195 yc_X8_heightAt yv_X8_heightAt (k_heightAt hl (a := a) (k := q) hC14 eq0 ok0 (by omega) (by omega)) rfl rfl hf15 ((((arrI Z n1 24 (fun i => if i < (q + 1) then nI (cnN ((fun k a => dkN p h f t (toN Z) a k) i) (a + 1)) else nI (cnN ((fun k a => dkN p h f t (toN Z) a k) i) a)) ++ wSim Z s (toN Z) (toM Z) hA lA oA tA eA (fun j => some (rw j)) (fun j => some (lr j)) fo ft fe dy ca) ++ wRw Z (toN Z) rw p h f t) ++ wPl Z L) ++ wLr Z (toM Z) lr (toK Z) (toV Z)) [] (by simp only [List.append_assoc, List.append_nil, List.nil_append]) rfl ⟨Nat.le_of_ble_eq_true rfl, Nat.le_of_ble_eq_true rfl⟩ (Nat.le_of_ble_eq_true rfl) rfl rfl ?_
        rintro _ w15 ⟨rfl, hC15⟩
        refine J_st (.int (nI (tlN h f t a q)) :: []) rfl ?_
        refine J_ws (((((arrI Z n1 24 (fun i => if i < (q + 1) then nI (cnN ((fun k a => dkN p h f t (toN Z) a k) i) (a + 1)) else nI (cnN ((fun k a => dkN p h f t (toN Z) a k) i) a)) ++ wSim Z s (toN Z) (toM Z) hA lA oA tA eA (fun j => some (rw j)) (fun j => some (lr j)) fo ft fe dy ca) ++ wRw Z (toN Z) rw p h f t) ++ wPl Z L) ++ wLr Z (toM Z) lr (toK Z) (toV Z)) ++ w15) (by simp only [List.append_assoc, List.append_nil, List.nil_append]) ?_
        refine J_iload C iL_law_268 rfl ?_
        refine J_ifeq 277 C iL_law_270 rfl (fun h270 => ?_) (fun h270 => absurd rfl h270)
        refine J_aload_n C iL_law_277 rfl rfl ?_
        refine J_iload C iL_law_278 rfl ?_
        obtain ⟨fs16, hf16⟩ := CI.head hC15
        refine J_room (rc2 := 1 + (194 + 1 * (rc + 0))) (rs2 := 6 + (1164 + 1 * (rs + 0))) (by omega) (by omega) ?_
        refine J_cVb (As := [.int (nI a)]) (st := .int (nI (tlN h f t a q)) :: []) (rc2 := 194 + 1 * (rc + 0)) (rs2 := 1164 + 1 * (rs + 0)) (w0 := (w15)) (q0 := 0) C iL_law_280 lm_L_198 yc_X8_heightOf yv_X8_heightOf (k_heightOf hl (a := a) hC15 eq0 ok0 (by omega)) rfl rfl hf16 ((((arrI Z n1 24 (fun i => if i < (q + 1) then nI (cnN ((fun k a => dkN p h f t (toN Z) a k) i) (a + 1)) else nI (cnN ((fun k a => dkN p h f t (toN Z) a k) i) a)) ++ wSim Z s (toN Z) (toM Z) hA lA oA tA eA (fun j => some (rw j)) (fun j => some (lr j)) fo ft fe dy ca) ++ wRw Z (toN Z) rw p h f t) ++ wPl Z L) ++ wLr Z (toM Z) lr (toK Z) (toV Z)) [] (by simp only [List.append_assoc, List.append_nil, List.nil_append]) rfl ⟨Nat.le_of_ble_eq_true rfl, Nat.le_of_ble_eq_true rfl⟩ (Nat.le_of_ble_eq_true rfl) rfl rfl ?_
        rintro _ w16 ⟨rfl, hC16⟩
        refine J_st (.int (nI (h a)) :: .int (nI (tlN h f t a q)) :: []) rfl ?_
        refine J_ws (((((arrI Z n1 24 (fun i => if i < (q + 1) then nI (cnN ((fun k a => dkN p h f t (toN Z) a k) i) (a + 1)) else nI (cnN ((fun k a => dkN p h f t (toN Z) a k) i) a)) ++ wSim Z s (toN Z) (toM Z) hA lA oA tA eA (fun j => some (rw j)) (fun j => some (lr j)) fo ft fe dy ca) ++ wRw Z (toN Z) rw p h f t) ++ wPl Z L) ++ wLr Z (toM Z) lr (toK Z) (toV Z)) ++ w16) (by simp only [List.append_assoc, List.append_nil, List.nil_append]) ?_
        refine J_icmpeq 288 C iL_law_283 rfl (fun h283 => ?_) (fun h283 => absurd (congrArg nI (tl_hi (fun z => z.1 hfa))) h283)
        refine J_iload C iL_law_288 rfl ?_
        refine J_ifeqb 304 C iL_law_290 rfl (fun h290 => absurd (h290.symm.trans hdk) (by decide)) (fun h290 => ?_)
        refine J_aload_n C iL_law_293 rfl rfl ?_
        refine J_iload C iL_law_294 rfl ?_
        refine J_iload C iL_law_296 rfl ?_
        obtain ⟨fs17, hf17⟩ := CI.head hC16
        refine J_room (rc2 := 3 + (191 + 1 * (rc + 0))) (rs2 := 18 + (1146 + 1 * (rs + 0))) (by omega) (by omega) ?_
        refine J_cVb (As := [.int (nI a), .int (nI q)]) (st := []) (rc2 := 191 + 1 * (rc + 0)) (rs2 := 1146 + 1 * (rs + 0)) (w0 := (w16)) (q0 := 0) C iL_law_298 lm_L_201 yc_X8_shadedBy yv_X8_shadedBy (k_shadedBy hl (a := a) (k := q) hC16 eq0 ok0 (by omega) (by omega) hdk) rfl rfl hf17 ((((arrI Z n1 24 (fun i => if i < (q + 1) then nI (cnN ((fun k a => dkN p h f t (toN Z) a k) i) (a + 1)) else nI (cnN ((fun k a => dkN p h f t (toN Z) a k) i) a)) ++ wSim Z s (toN Z) (toM Z) hA lA oA tA eA (fun j => some (rw j)) (fun j => some (lr j)) fo ft fe dy ca) ++ wRw Z (toN Z) rw p h f t) ++ wPl Z L) ++ wLr Z (toM Z) lr (toK Z) (toV Z)) [] (by simp only [List.append_assoc, List.append_nil, List.nil_append]) rfl ⟨Nat.le_of_ble_eq_true rfl, Nat.le_of_ble_eq_true rfl⟩ (Nat.le_of_ble_eq_true rfl) rfl rfl ?_
        rintro _ w17 ⟨rfl, hC17⟩
        refine J_st (.int (opI (nrN p h f t a q (toN Z)).1) :: []) rfl ?_
        refine J_ws (((((arrI Z n1 24 (fun i => if i < (q + 1) then nI (cnN ((fun k a => dkN p h f t (toN Z) a k) i) (a + 1)) else nI (cnN ((fun k a => dkN p h f t (toN Z) a k) i) a)) ++ wSim Z s (toN Z) (toM Z) hA lA oA tA eA (fun j => some (rw j)) (fun j => some (lr j)) fo ft fe dy ca) ++ wRw Z (toN Z) rw p h f t) ++ wPl Z L) ++ wLr Z (toM Z) lr (toK Z) (toV Z)) ++ w17) (by simp only [List.append_assoc, List.append_nil, List.nil_append]) ?_
        refine J_goto 305 C iL_law_301 rfl ?_
        refine J_istore [(19, .int (opI (nrN p h f t a q (toN Z)).1)), (18, .int 0), (14, .int (nI ((cnN (fun k => dkN p h f t (toN Z) a k) q) + 1))), (17, .int (b2i (dkN p h f t (toN Z) a q))), (16, .int (nI q)), (15, .int 0), (13, .int (nI a)), (12, .ref n1), (11, .int (nI (cnN (fun a => decide (loN p h f t (toN Z) a = 0)) a))), (10, .int (nI (smN (fun a => caN p h f t (toN Z) a) a))), (9, .int (nI (smN (fun a => loN p h f t (toN Z) a) a))), (7, .long dg9), (6, .int x9), (5, .int (nI tm9)), (4, .int (nI (toN Z))), (3, .ref s), (2, .ref t9), (1, .ref (x 0)), (0, .ref (zms Z 3))] C iL_law_305 (by decide) rfl ?_
        have e14 : nI (cnN (fun k => dkN p h f t (toN Z) a k) (q + 1)) = nI ((cnN (fun k => dkN p h f t (toN Z) a k) q) + 1) := by rw [cnN_s, hdk]; rfl
        refine J_room (rc2 := 185 + 1 * (rc + 0)) (rs2 := 1110 + 1 * (rs + 0)) (by omega) (by omega) ?_
        refine J_lvm [(19, .int (opI (nrN p h f t a q (toN Z)).1)), (17, .int (b2i (dkN p h f t (toN Z) a q))), (16, .int (nI q)), (15, .int 0), (14, .int (nI (cnN (fun k => dkN p h f t (toN Z) a k) (q + 1)))), (13, .int (nI a)), (12, .ref n1), (11, .int (nI (cnN (fun a => decide (loN p h f t (toN Z) a = 0)) a))), (10, .int (nI (smN (fun a => caN p h f t (toN Z) a) a))), (9, .int (nI (smN (fun a => loN p h f t (toN Z) a) a))), (7, .long dg9), (6, .int x9), (5, .int (nI tm9)), (4, .int (nI (toN Z))), (3, .ref s), (2, .ref t9), (1, .ref (x 0)), (0, .ref (zms Z 3))] (by rw [e14]; rfl) ?_
        exact hk307 w17 hC17
      · refine J_ifeqb 231 C iL_law_202 rfl (fun h202 => absurd (h202.symm.trans (by rw [decide_eq_false hfa]; first | done | rfl)) (by decide)) (fun h202 => ?_)
        refine J_iload C iL_law_205 rfl ?_
        refine J_aload_n C iL_law_207 rfl rfl ?_
        refine J_iload C iL_law_208 rfl ?_
        obtain ⟨fs18, hf18⟩ := CI.head hC14
        refine J_room (rc2 := 2 + (195 + 1 * (rc + 0))) (rs2 := 12 + (1170 + 1 * (rs + 0))) (by omega) (by omega) ?_
        refine J_cVb (As := [.int (nI a)]) (st := .int (nI q) :: []) (rc2 := 195 + 1 * (rc + 0)) (rs2 := 1170 + 1 * (rs + 0)) (w0 := (w14)) (q0 := 0) C iL_law_210 lm_L_189 yc_X8_curfewFrom yv_X8_curfewFrom (k_curfewFrom hl (a := a) hC14 eq0 ok0 (by omega) hfa) rfl rfl hf18 ((((arrI Z n1 24 (fun i => if i < (q + 1) then nI (cnN ((fun k a => dkN p h f t (toN Z) a k) i) (a + 1)) else nI (cnN ((fun k a => dkN p h f t (toN Z) a k) i) a)) ++ wSim Z s (toN Z) (toM Z) hA lA oA tA eA (fun j => some (rw j)) (fun j => some (lr j)) fo ft fe dy ca) ++ wRw Z (toN Z) rw p h f t) ++ wPl Z L) ++ wLr Z (toM Z) lr (toK Z) (toV Z)) [] (by simp only [List.append_assoc, List.append_nil, List.nil_append]) rfl ⟨Nat.le_of_ble_eq_true rfl, Nat.le_of_ble_eq_true rfl⟩ (Nat.le_of_ble_eq_true rfl) rfl rfl ?_
        rintro _ w18 ⟨rfl, hC18⟩
        refine J_st (.int (cuI (f a)) :: .int (nI q) :: []) rfl ?_
        refine J_ws (((((arrI Z n1 24 (fun i => if i < (q + 1) then nI (cnN ((fun k a => dkN p h f t (toN Z) a k) i) (a + 1)) else nI (cnN ((fun k a => dkN p h f t (toN Z) a k) i) a)) ++ wSim Z s (toN Z) (toM Z) hA lA oA tA eA (fun j => some (rw j)) (fun j => some (lr j)) fo ft fe dy ca) ++ wRw Z (toN Z) rw p h f t) ++ wPl Z L) ++ wLr Z (toM Z) lr (toK Z) (toV Z)) ++ w18) (by simp only [List.append_assoc, List.append_nil, List.nil_append]) ?_
        by_cases hlf : f a ≤ q
        · refine J_icmplt 231 C iL_law_213 rfl (fun h213 => absurd h213 (by rw [cu_nI hfa]; exact nI_nlt hlf (by omega))) (fun h213 => ?_)
          refine J_iload C iL_law_216 rfl ?_
          refine J_aload_n C iL_law_218 rfl rfl ?_
          refine J_iload C iL_law_219 rfl ?_
          obtain ⟨fs19, hf19⟩ := CI.head hC18
          refine J_room (rc2 := 2 + (193 + 1 * (rc + 0))) (rs2 := 12 + (1158 + 1 * (rs + 0))) (by omega) (by omega) ?_
          refine J_cVb (As := [.int (nI a)]) (st := .int (nI q) :: []) (rc2 := 193 + 1 * (rc + 0)) (rs2 := 1158 + 1 * (rs + 0)) (w0 := (w18)) (q0 := 0) C iL_law_221 lm_L_192 yc_X8_curfewTo yv_X8_curfewTo (k_curfewTo hl (a := a) hC18 eq0 ok0 (by omega) hfa) rfl rfl hf19 ((((arrI Z n1 24 (fun i => if i < (q + 1) then nI (cnN ((fun k a => dkN p h f t (toN Z) a k) i) (a + 1)) else nI (cnN ((fun k a => dkN p h f t (toN Z) a k) i) a)) ++ wSim Z s (toN Z) (toM Z) hA lA oA tA eA (fun j => some (rw j)) (fun j => some (lr j)) fo ft fe dy ca) ++ wRw Z (toN Z) rw p h f t) ++ wPl Z L) ++ wLr Z (toM Z) lr (toK Z) (toV Z)) [] (by simp only [List.append_assoc, List.append_nil, List.nil_append]) rfl ⟨Nat.le_of_ble_eq_true rfl, Nat.le_of_ble_eq_true rfl⟩ (Nat.le_of_ble_eq_true rfl) rfl rfl ?_
          rintro _ w19 ⟨rfl, hC19⟩
          refine J_st (.int (cuI (t a)) :: .int (nI q) :: []) rfl ?_
          refine J_ws (((((arrI Z n1 24 (fun i => if i < (q + 1) then nI (cnN ((fun k a => dkN p h f t (toN Z) a k) i) (a + 1)) else nI (cnN ((fun k a => dkN p h f t (toN Z) a k) i) a)) ++ wSim Z s (toN Z) (toM Z) hA lA oA tA eA (fun j => some (rw j)) (fun j => some (lr j)) fo ft fe dy ca) ++ wRw Z (toN Z) rw p h f t) ++ wPl Z L) ++ wLr Z (toM Z) lr (toK Z) (toV Z)) ++ w19) (by simp only [List.append_assoc, List.append_nil, List.nil_append]) ?_
          by_cases hlt : q ≤ t a
          · refine J_icmpgt 231 C iL_law_224 rfl (fun h224 => absurd h224 (by rw [cu_nI (show ¬ t a = 0 by omega)]; exact nI_nlt hlt (by omega))) (fun h224 => ?_)
            refine J_iconst 1 C iL_law_227 rfl ?_
            refine J_goto 232 C iL_law_228 rfl ?_
            refine J_istore [(18, .int 1), (14, .int (nI ((cnN (fun k => dkN p h f t (toN Z) a k) q) + 1))), (17, .int (b2i (dkN p h f t (toN Z) a q))), (16, .int (nI q)), (15, .int 0), (13, .int (nI a)), (12, .ref n1), (11, .int (nI (cnN (fun a => decide (loN p h f t (toN Z) a = 0)) a))), (10, .int (nI (smN (fun a => caN p h f t (toN Z) a) a))), (9, .int (nI (smN (fun a => loN p h f t (toN Z) a) a))), (7, .long dg9), (6, .int x9), (5, .int (nI tm9)), (4, .int (nI (toN Z))), (3, .ref s), (2, .ref t9), (1, .ref (x 0)), (0, .ref (zms Z 3))] C iL_law_232 (by decide) rfl ?_
            refine J_iload C iL_law_234 rfl ?_
            refine J_ifeqb 260 C iL_law_236 rfl (fun h236 => absurd (h236.symm.trans hdk) (by decide)) (fun h236 => ?_)
            refine J_iload C iL_law_239 rfl ?_
            refine J_bipush 6 C iL_law_241 rfl ?_
            refine J_icmplt 286 C iL_law_243 rfl (fun h243 => absurd h243 (nI_nlt (a := q) (b := 6) (by omega) (by omega))) (fun h243 => ?_)
            refine J_iload C iL_law_246 rfl ?_
            refine J_bipush 18 C iL_law_248 rfl ?_
            refine J_icmpgt 286 C iL_law_250 rfl (fun h250 => absurd h250 (nI_nlt (a := 18) (b := q) (by omega) (by decide))) (fun h250 => ?_)
            refine J_iload C iL_law_253 rfl ?_
            refine J_bipush 12 C iL_law_255 rfl ?_
            refine J_icmpeq 286 C iL_law_257 rfl (fun h257 => absurd h257 (fun e => hq6.2.2 ((nI_eq (a := q) (b := 12) (by omega) (by decide)).mp e))) (fun h257 => ?_)
            refine J_aload_n C iL_law_260 rfl rfl ?_
            refine J_iload C iL_law_261 rfl ?_
            refine J_iload C iL_law_263 rfl ?_
            obtain ⟨fs20, hf20⟩ := CI.head hC19
            refine J_room (rc2 := 2 + (191 + 1 * (rc + 0))) (rs2 := 12 + (1146 + 1 * (rs + 0))) (by omega) (by omega) ?_
            refine J_cVb (As := [.int (nI a), .int (nI q)]) (st := []) (rc2 := 191 + 1 * (rc + 0)) (rs2 := 1146 + 1 * (rs + 0)) (w0 := (w19)) (q0 := 0) C iL_law_265 lm_L_195 yc_X8_heightAt yv_X8_heightAt (k_heightAt hl (a := a) (k := q) hC19 eq0 ok0 (by omega) (by omega)) rfl rfl hf20 ((((arrI Z n1 24 (fun i => if i < (q + 1) then nI (cnN ((fun k a => dkN p h f t (toN Z) a k) i) (a + 1)) else nI (cnN ((fun k a => dkN p h f t (toN Z) a k) i) a)) ++ wSim Z s (toN Z) (toM Z) hA lA oA tA eA (fun j => some (rw j)) (fun j => some (lr j)) fo ft fe dy ca) ++ wRw Z (toN Z) rw p h f t) ++ wPl Z L) ++ wLr Z (toM Z) lr (toK Z) (toV Z)) [] (by simp only [List.append_assoc, List.append_nil, List.nil_append]) rfl ⟨Nat.le_of_ble_eq_true rfl, Nat.le_of_ble_eq_true rfl⟩ (Nat.le_of_ble_eq_true rfl) rfl rfl ?_
            rintro _ w20 ⟨rfl, hC20⟩
            refine J_st (.int (nI (tlN h f t a q)) :: []) rfl ?_
            refine J_ws (((((arrI Z n1 24 (fun i => if i < (q + 1) then nI (cnN ((fun k a => dkN p h f t (toN Z) a k) i) (a + 1)) else nI (cnN ((fun k a => dkN p h f t (toN Z) a k) i) a)) ++ wSim Z s (toN Z) (toM Z) hA lA oA tA eA (fun j => some (rw j)) (fun j => some (lr j)) fo ft fe dy ca) ++ wRw Z (toN Z) rw p h f t) ++ wPl Z L) ++ wLr Z (toM Z) lr (toK Z) (toV Z)) ++ w20) (by simp only [List.append_assoc, List.append_nil, List.nil_append]) ?_
            refine J_iload C iL_law_268 rfl ?_
            refine J_ifeq 277 C iL_law_270 rfl (fun h270 => absurd h270 (by decide)) (fun h270 => ?_)
            refine J_iconst 0 C iL_law_273 rfl ?_
            refine J_goto 283 C iL_law_274 rfl ?_
            refine J_icmpeq 288 C iL_law_283 rfl (fun h283 => ?_) (fun h283 => absurd (congrArg nI (tl_lo hfa hlf hlt)) h283)
            refine J_iload C iL_law_288 rfl ?_
            refine J_ifeqb 304 C iL_law_290 rfl (fun h290 => absurd (h290.symm.trans hdk) (by decide)) (fun h290 => ?_)
            refine J_aload_n C iL_law_293 rfl rfl ?_
            refine J_iload C iL_law_294 rfl ?_
            refine J_iload C iL_law_296 rfl ?_
            obtain ⟨fs21, hf21⟩ := CI.head hC20
            refine J_room (rc2 := 3 + (188 + 1 * (rc + 0))) (rs2 := 18 + (1128 + 1 * (rs + 0))) (by omega) (by omega) ?_
            refine J_cVb (As := [.int (nI a), .int (nI q)]) (st := []) (rc2 := 188 + 1 * (rc + 0)) (rs2 := 1128 + 1 * (rs + 0)) (w0 := (w20)) (q0 := 0) C iL_law_298 lm_L_201 yc_X8_shadedBy yv_X8_shadedBy (k_shadedBy hl (a := a) (k := q) hC20 eq0 ok0 (by omega) (by omega) hdk) rfl rfl hf21 ((((arrI Z n1 24 (fun i => if i < (q + 1) then nI (cnN ((fun k a => dkN p h f t (toN Z) a k) i) (a + 1)) else nI (cnN ((fun k a => dkN p h f t (toN Z) a k) i) a)) ++ wSim Z s (toN Z) (toM Z) hA lA oA tA eA (fun j => some (rw j)) (fun j => some (lr j)) fo ft fe dy ca) ++ wRw Z (toN Z) rw p h f t) ++ wPl Z L) ++ wLr Z (toM Z) lr (toK Z) (toV Z)) [] (by simp only [List.append_assoc, List.append_nil, List.nil_append]) rfl ⟨Nat.le_of_ble_eq_true rfl, Nat.le_of_ble_eq_true rfl⟩ (Nat.le_of_ble_eq_true rfl) rfl rfl ?_
            rintro _ w21 ⟨rfl, hC21⟩
            refine J_st (.int (opI (nrN p h f t a q (toN Z)).1) :: []) rfl ?_
            refine J_ws (((((arrI Z n1 24 (fun i => if i < (q + 1) then nI (cnN ((fun k a => dkN p h f t (toN Z) a k) i) (a + 1)) else nI (cnN ((fun k a => dkN p h f t (toN Z) a k) i) a)) ++ wSim Z s (toN Z) (toM Z) hA lA oA tA eA (fun j => some (rw j)) (fun j => some (lr j)) fo ft fe dy ca) ++ wRw Z (toN Z) rw p h f t) ++ wPl Z L) ++ wLr Z (toM Z) lr (toK Z) (toV Z)) ++ w21) (by simp only [List.append_assoc, List.append_nil, List.nil_append]) ?_
            refine J_goto 305 C iL_law_301 rfl ?_
            refine J_istore [(19, .int (opI (nrN p h f t a q (toN Z)).1)), (18, .int 1), (14, .int (nI ((cnN (fun k => dkN p h f t (toN Z) a k) q) + 1))), (17, .int (b2i (dkN p h f t (toN Z) a q))), (16, .int (nI q)), (15, .int 0), (13, .int (nI a)), (12, .ref n1), (11, .int (nI (cnN (fun a => decide (loN p h f t (toN Z) a = 0)) a))), (10, .int (nI (smN (fun a => caN p h f t (toN Z) a) a))), (9, .int (nI (smN (fun a => loN p h f t (toN Z) a) a))), (7, .long dg9), (6, .int x9), (5, .int (nI tm9)), (4, .int (nI (toN Z))), (3, .ref s), (2, .ref t9), (1, .ref (x 0)), (0, .ref (zms Z 3))] C iL_law_305 (by decide) rfl ?_
            have e14 : nI (cnN (fun k => dkN p h f t (toN Z) a k) (q + 1)) = nI ((cnN (fun k => dkN p h f t (toN Z) a k) q) + 1) := by rw [cnN_s, hdk]; rfl
            refine J_room (rc2 := 185 + 1 * (rc + 0)) (rs2 := 1110 + 1 * (rs + 0)) (by omega) (by omega) ?_
            refine J_lvm [(19, .int (opI (nrN p h f t a q (toN Z)).1)), (17, .int (b2i (dkN p h f t (toN Z) a q))), (16, .int (nI q)), (15, .int 0), (14, .int (nI (cnN (fun k => dkN p h f t (toN Z) a k) (q + 1)))), (13, .int (nI a)), (12, .ref n1), (11, .int (nI (cnN (fun a => decide (loN p h f t (toN Z) a = 0)) a))), (10, .int (nI (smN (fun a => caN p h f t (toN Z) a) a))), (9, .int (nI (smN (fun a => loN p h f t (toN Z) a) a))), (7, .long dg9), (6, .int x9), (5, .int (nI tm9)), (4, .int (nI (toN Z))), (3, .ref s), (2, .ref t9), (1, .ref (x 0)), (0, .ref (zms Z 3))] (by rw [e14]; rfl) ?_
            exact hk307 w21 hC21
          · refine J_icmpgt 231 C iL_law_224 rfl (fun h224 => ?_) (fun h224 => absurd (by rw [cu_nI (show ¬ t a = 0 by omega)]; exact nI_lt (by omega) (by omega)) h224)
            refine J_iconst 0 C iL_law_231 rfl ?_
            refine J_istore [(18, .int 0), (14, .int (nI ((cnN (fun k => dkN p h f t (toN Z) a k) q) + 1))), (17, .int (b2i (dkN p h f t (toN Z) a q))), (16, .int (nI q)), (15, .int 0), (13, .int (nI a)), (12, .ref n1), (11, .int (nI (cnN (fun a => decide (loN p h f t (toN Z) a = 0)) a))), (10, .int (nI (smN (fun a => caN p h f t (toN Z) a) a))), (9, .int (nI (smN (fun a => loN p h f t (toN Z) a) a))), (7, .long dg9), (6, .int x9), (5, .int (nI tm9)), (4, .int (nI (toN Z))), (3, .ref s), (2, .ref t9), (1, .ref (x 0)), (0, .ref (zms Z 3))] C iL_law_232 (by decide) rfl ?_
            refine J_iload C iL_law_234 rfl ?_
            refine J_ifeqb 260 C iL_law_236 rfl (fun h236 => absurd (h236.symm.trans hdk) (by decide)) (fun h236 => ?_)
            refine J_iload C iL_law_239 rfl ?_
            refine J_bipush 6 C iL_law_241 rfl ?_
            refine J_icmplt 286 C iL_law_243 rfl (fun h243 => absurd h243 (nI_nlt (a := q) (b := 6) (by omega) (by omega))) (fun h243 => ?_)
            refine J_iload C iL_law_246 rfl ?_
            refine J_bipush 18 C iL_law_248 rfl ?_
            refine J_icmpgt 286 C iL_law_250 rfl (fun h250 => absurd h250 (nI_nlt (a := 18) (b := q) (by omega) (by decide))) (fun h250 => ?_)
            refine J_iload C iL_law_253 rfl ?_
            refine J_bipush 12 C iL_law_255 rfl ?_
            refine J_icmpeq 286 C iL_law_257 rfl (fun h257 => absurd h257 (fun e => hq6.2.2 ((nI_eq (a := q) (b := 12) (by omega) (by decide)).mp e))) (fun h257 => ?_)
            refine J_aload_n C iL_law_260 rfl rfl ?_
            refine J_iload C iL_law_261 rfl ?_
            refine J_iload C iL_law_263 rfl ?_
            obtain ⟨fs22, hf22⟩ := CI.head hC19
            refine J_room (rc2 := 2 + (191 + 1 * (rc + 0))) (rs2 := 12 + (1146 + 1 * (rs + 0))) (by omega) (by omega) ?_
            refine J_cVb (As := [.int (nI a), .int (nI q)]) (st := []) (rc2 := 191 + 1 * (rc + 0)) (rs2 := 1146 + 1 * (rs + 0)) (w0 := (w19)) (q0 := 0) C iL_law_265 lm_L_195 yc_X8_heightAt yv_X8_heightAt (k_heightAt hl (a := a) (k := q) hC19 eq0 ok0 (by omega) (by omega)) rfl rfl hf22 ((((arrI Z n1 24 (fun i => if i < (q + 1) then nI (cnN ((fun k a => dkN p h f t (toN Z) a k) i) (a + 1)) else nI (cnN ((fun k a => dkN p h f t (toN Z) a k) i) a)) ++ wSim Z s (toN Z) (toM Z) hA lA oA tA eA (fun j => some (rw j)) (fun j => some (lr j)) fo ft fe dy ca) ++ wRw Z (toN Z) rw p h f t) ++ wPl Z L) ++ wLr Z (toM Z) lr (toK Z) (toV Z)) [] (by simp only [List.append_assoc, List.append_nil, List.nil_append]) rfl ⟨Nat.le_of_ble_eq_true rfl, Nat.le_of_ble_eq_true rfl⟩ (Nat.le_of_ble_eq_true rfl) rfl rfl ?_
            rintro _ w22 ⟨rfl, hC22⟩
            refine J_st (.int (nI (tlN h f t a q)) :: []) rfl ?_
            refine J_ws (((((arrI Z n1 24 (fun i => if i < (q + 1) then nI (cnN ((fun k a => dkN p h f t (toN Z) a k) i) (a + 1)) else nI (cnN ((fun k a => dkN p h f t (toN Z) a k) i) a)) ++ wSim Z s (toN Z) (toM Z) hA lA oA tA eA (fun j => some (rw j)) (fun j => some (lr j)) fo ft fe dy ca) ++ wRw Z (toN Z) rw p h f t) ++ wPl Z L) ++ wLr Z (toM Z) lr (toK Z) (toV Z)) ++ w22) (by simp only [List.append_assoc, List.append_nil, List.nil_append]) ?_
            refine J_iload C iL_law_268 rfl ?_
            refine J_ifeq 277 C iL_law_270 rfl (fun h270 => ?_) (fun h270 => absurd rfl h270)
            refine J_aload_n C iL_law_277 rfl rfl ?_
            refine J_iload C iL_law_278 rfl ?_
            obtain ⟨fs23, hf23⟩ := CI.head hC22
            refine J_room (rc2 := 1 + (190 + 1 * (rc + 0))) (rs2 := 6 + (1140 + 1 * (rs + 0))) (by omega) (by omega) ?_
            refine J_cVb (As := [.int (nI a)]) (st := .int (nI (tlN h f t a q)) :: []) (rc2 := 190 + 1 * (rc + 0)) (rs2 := 1140 + 1 * (rs + 0)) (w0 := (w22)) (q0 := 0) C iL_law_280 lm_L_198 yc_X8_heightOf yv_X8_heightOf (k_heightOf hl (a := a) hC22 eq0 ok0 (by omega)) rfl rfl hf23 ((((arrI Z n1 24 (fun i => if i < (q + 1) then nI (cnN ((fun k a => dkN p h f t (toN Z) a k) i) (a + 1)) else nI (cnN ((fun k a => dkN p h f t (toN Z) a k) i) a)) ++ wSim Z s (toN Z) (toM Z) hA lA oA tA eA (fun j => some (rw j)) (fun j => some (lr j)) fo ft fe dy ca) ++ wRw Z (toN Z) rw p h f t) ++ wPl Z L) ++ wLr Z (toM Z) lr (toK Z) (toV Z)) [] (by simp only [List.append_assoc, List.append_nil, List.nil_append]) rfl ⟨Nat.le_of_ble_eq_true rfl, Nat.le_of_ble_eq_true rfl⟩ (Nat.le_of_ble_eq_true rfl) rfl rfl ?_
            rintro _ w23 ⟨rfl, hC23⟩
            refine J_st (.int (nI (h a)) :: .int (nI (tlN h f t a q)) :: []) rfl ?_
            refine J_ws (((((arrI Z n1 24 (fun i => if i < (q + 1) then nI (cnN ((fun k a => dkN p h f t (toN Z) a k) i) (a + 1)) else nI (cnN ((fun k a => dkN p h f t (toN Z) a k) i) a)) ++ wSim Z s (toN Z) (toM Z) hA lA oA tA eA (fun j => some (rw j)) (fun j => some (lr j)) fo ft fe dy ca) ++ wRw Z (toN Z) rw p h f t) ++ wPl Z L) ++ wLr Z (toM Z) lr (toK Z) (toV Z)) ++ w23) (by simp only [List.append_assoc, List.append_nil, List.nil_append]) ?_
            refine J_icmpeq 288 C iL_law_283 rfl (fun h283 => ?_) (fun h283 => absurd (congrArg nI (tl_hi (fun z => hlt z.2.2))) h283)
            refine J_iload C iL_law_288 rfl ?_
            refine J_ifeqb 304 C iL_law_290 rfl (fun h290 => absurd (h290.symm.trans hdk) (by decide)) (fun h290 => ?_)
            refine J_aload_n C iL_law_293 rfl rfl ?_
            refine J_iload C iL_law_294 rfl ?_
            refine J_iload C iL_law_296 rfl ?_
            obtain ⟨fs24, hf24⟩ := CI.head hC23
            refine J_room (rc2 := 3 + (187 + 1 * (rc + 0))) (rs2 := 18 + (1122 + 1 * (rs + 0))) (by omega) (by omega) ?_
            refine J_cVb (As := [.int (nI a), .int (nI q)]) (st := []) (rc2 := 187 + 1 * (rc + 0)) (rs2 := 1122 + 1 * (rs + 0)) (w0 := (w23)) (q0 := 0) C iL_law_298 lm_L_201 yc_X8_shadedBy yv_X8_shadedBy (k_shadedBy hl (a := a) (k := q) hC23 eq0 ok0 (by omega) (by omega) hdk) rfl rfl hf24 ((((arrI Z n1 24 (fun i => if i < (q + 1) then nI (cnN ((fun k a => dkN p h f t (toN Z) a k) i) (a + 1)) else nI (cnN ((fun k a => dkN p h f t (toN Z) a k) i) a)) ++ wSim Z s (toN Z) (toM Z) hA lA oA tA eA (fun j => some (rw j)) (fun j => some (lr j)) fo ft fe dy ca) ++ wRw Z (toN Z) rw p h f t) ++ wPl Z L) ++ wLr Z (toM Z) lr (toK Z) (toV Z)) [] (by simp only [List.append_assoc, List.append_nil, List.nil_append]) rfl ⟨Nat.le_of_ble_eq_true rfl, Nat.le_of_ble_eq_true rfl⟩ (Nat.le_of_ble_eq_true rfl) rfl rfl ?_
            rintro _ w24 ⟨rfl, hC24⟩
            refine J_st (.int (opI (nrN p h f t a q (toN Z)).1) :: []) rfl ?_
            refine J_ws (((((arrI Z n1 24 (fun i => if i < (q + 1) then nI (cnN ((fun k a => dkN p h f t (toN Z) a k) i) (a + 1)) else nI (cnN ((fun k a => dkN p h f t (toN Z) a k) i) a)) ++ wSim Z s (toN Z) (toM Z) hA lA oA tA eA (fun j => some (rw j)) (fun j => some (lr j)) fo ft fe dy ca) ++ wRw Z (toN Z) rw p h f t) ++ wPl Z L) ++ wLr Z (toM Z) lr (toK Z) (toV Z)) ++ w24) (by simp only [List.append_assoc, List.append_nil, List.nil_append]) ?_
            refine J_goto 305 C iL_law_301 rfl ?_
            refine J_istore [(19, .int (opI (nrN p h f t a q (toN Z)).1)), (18, .int 0), (14, .int (nI ((cnN (fun k => dkN p h f t (toN Z) a k) q) + 1))), (17, .int (b2i (dkN p h f t (toN Z) a q))), (16, .int (nI q)), (15, .int 0), (13, .int (nI a)), (12, .ref n1), (11, .int (nI (cnN (fun a => decide (loN p h f t (toN Z) a = 0)) a))), (10, .int (nI (smN (fun a => caN p h f t (toN Z) a) a))), (9, .int (nI (smN (fun a => loN p h f t (toN Z) a) a))), (7, .long dg9), (6, .int x9), (5, .int (nI tm9)), (4, .int (nI (toN Z))), (3, .ref s), (2, .ref t9), (1, .ref (x 0)), (0, .ref (zms Z 3))] C iL_law_305 (by decide) rfl ?_
            have e14 : nI (cnN (fun k => dkN p h f t (toN Z) a k) (q + 1)) = nI ((cnN (fun k => dkN p h f t (toN Z) a k) q) + 1) := by rw [cnN_s, hdk]; rfl
            refine J_room (rc2 := 185 + 1 * (rc + 0)) (rs2 := 1110 + 1 * (rs + 0)) (by omega) (by omega) ?_
            refine J_lvm [(19, .int (opI (nrN p h f t a q (toN Z)).1)), (17, .int (b2i (dkN p h f t (toN Z) a q))), (16, .int (nI q)), (15, .int 0), (14, .int (nI (cnN (fun k => dkN p h f t (toN Z) a k) (q + 1)))), (13, .int (nI a)), (12, .ref n1), (11, .int (nI (cnN (fun a => decide (loN p h f t (toN Z) a = 0)) a))), (10, .int (nI (smN (fun a => caN p h f t (toN Z) a) a))), (9, .int (nI (smN (fun a => loN p h f t (toN Z) a) a))), (7, .long dg9), (6, .int x9), (5, .int (nI tm9)), (4, .int (nI (toN Z))), (3, .ref s), (2, .ref t9), (1, .ref (x 0)), (0, .ref (zms Z 3))] (by rw [e14]; rfl) ?_
            exact hk307 w24 hC24
        · refine J_icmplt 231 C iL_law_213 rfl (fun h213 => ?_) (fun h213 => absurd (by rw [cu_nI hfa]; exact nI_lt (by omega) (by omega)) h213)
          refine J_iconst 0 C iL_law_231 rfl ?_
          refine J_istore [(18, .int 0), (14, .int (nI ((cnN (fun k => dkN p h f t (toN Z) a k) q) + 1))), (17, .int (b2i (dkN p h f t (toN Z) a q))), (16, .int (nI q)), (15, .int 0), (13, .int (nI a)), (12, .ref n1), (11, .int (nI (cnN (fun a => decide (loN p h f t (toN Z) a = 0)) a))), (10, .int (nI (smN (fun a => caN p h f t (toN Z) a) a))), (9, .int (nI (smN (fun a => loN p h f t (toN Z) a) a))), (7, .long dg9), (6, .int x9), (5, .int (nI tm9)), (4, .int (nI (toN Z))), (3, .ref s), (2, .ref t9), (1, .ref (x 0)), (0, .ref (zms Z 3))] C iL_law_232 (by decide) rfl ?_
          refine J_iload C iL_law_234 rfl ?_
          refine J_ifeqb 260 C iL_law_236 rfl (fun h236 => absurd (h236.symm.trans hdk) (by decide)) (fun h236 => ?_)
          refine J_iload C iL_law_239 rfl ?_
          refine J_bipush 6 C iL_law_241 rfl ?_
          refine J_icmplt 286 C iL_law_243 rfl (fun h243 => absurd h243 (nI_nlt (a := q) (b := 6) (by omega) (by omega))) (fun h243 => ?_)
          refine J_iload C iL_law_246 rfl ?_
          refine J_bipush 18 C iL_law_248 rfl ?_
          refine J_icmpgt 286 C iL_law_250 rfl (fun h250 => absurd h250 (nI_nlt (a := 18) (b := q) (by omega) (by decide))) (fun h250 => ?_)
          refine J_iload C iL_law_253 rfl ?_
          refine J_bipush 12 C iL_law_255 rfl ?_
          refine J_icmpeq 286 C iL_law_257 rfl (fun h257 => absurd h257 (fun e => hq6.2.2 ((nI_eq (a := q) (b := 12) (by omega) (by decide)).mp e))) (fun h257 => ?_)
          refine J_aload_n C iL_law_260 rfl rfl ?_
          refine J_iload C iL_law_261 rfl ?_
          refine J_iload C iL_law_263 rfl ?_
          obtain ⟨fs25, hf25⟩ := CI.head hC18
          refine J_room (rc2 := 2 + (193 + 1 * (rc + 0))) (rs2 := 12 + (1158 + 1 * (rs + 0))) (by omega) (by omega) ?_
          refine J_cVb (As := [.int (nI a), .int (nI q)]) (st := []) (rc2 := 193 + 1 * (rc + 0)) (rs2 := 1158 + 1 * (rs + 0)) (w0 := (w18)) (q0 := 0) C iL_law_265 lm_L_195 yc_X8_heightAt yv_X8_heightAt (k_heightAt hl (a := a) (k := q) hC18 eq0 ok0 (by omega) (by omega)) rfl rfl hf25 ((((arrI Z n1 24 (fun i => if i < (q + 1) then nI (cnN ((fun k a => dkN p h f t (toN Z) a k) i) (a + 1)) else nI (cnN ((fun k a => dkN p h f t (toN Z) a k) i) a)) ++ wSim Z s (toN Z) (toM Z) hA lA oA tA eA (fun j => some (rw j)) (fun j => some (lr j)) fo ft fe dy ca) ++ wRw Z (toN Z) rw p h f t) ++ wPl Z L) ++ wLr Z (toM Z) lr (toK Z) (toV Z)) [] (by simp only [List.append_assoc, List.append_nil, List.nil_append]) rfl ⟨Nat.le_of_ble_eq_true rfl, Nat.le_of_ble_eq_true rfl⟩ (Nat.le_of_ble_eq_true rfl) rfl rfl ?_
          rintro _ w25 ⟨rfl, hC25⟩
          refine J_st (.int (nI (tlN h f t a q)) :: []) rfl ?_
          refine J_ws (((((arrI Z n1 24 (fun i => if i < (q + 1) then nI (cnN ((fun k a => dkN p h f t (toN Z) a k) i) (a + 1)) else nI (cnN ((fun k a => dkN p h f t (toN Z) a k) i) a)) ++ wSim Z s (toN Z) (toM Z) hA lA oA tA eA (fun j => some (rw j)) (fun j => some (lr j)) fo ft fe dy ca) ++ wRw Z (toN Z) rw p h f t) ++ wPl Z L) ++ wLr Z (toM Z) lr (toK Z) (toV Z)) ++ w25) (by simp only [List.append_assoc, List.append_nil, List.nil_append]) ?_
          refine J_iload C iL_law_268 rfl ?_
          refine J_ifeq 277 C iL_law_270 rfl (fun h270 => ?_) (fun h270 => absurd rfl h270)
          refine J_aload_n C iL_law_277 rfl rfl ?_
          refine J_iload C iL_law_278 rfl ?_
          obtain ⟨fs26, hf26⟩ := CI.head hC25
          refine J_room (rc2 := 1 + (192 + 1 * (rc + 0))) (rs2 := 6 + (1152 + 1 * (rs + 0))) (by omega) (by omega) ?_
          refine J_cVb (As := [.int (nI a)]) (st := .int (nI (tlN h f t a q)) :: []) (rc2 := 192 + 1 * (rc + 0)) (rs2 := 1152 + 1 * (rs + 0)) (w0 := (w25)) (q0 := 0) C iL_law_280 lm_L_198 yc_X8_heightOf yv_X8_heightOf (k_heightOf hl (a := a) hC25 eq0 ok0 (by omega)) rfl rfl hf26 ((((arrI Z n1 24 (fun i => if i < (q + 1) then nI (cnN ((fun k a => dkN p h f t (toN Z) a k) i) (a + 1)) else nI (cnN ((fun k a => dkN p h f t (toN Z) a k) i) a)) ++ wSim Z s (toN Z) (toM Z) hA lA oA tA eA (fun j => some (rw j)) (fun j => some (lr j)) fo ft fe dy ca) ++ wRw Z (toN Z) rw p h f t) ++ wPl Z L) ++ wLr Z (toM Z) lr (toK Z) (toV Z)) [] (by simp only [List.append_assoc, List.append_nil, List.nil_append]) rfl ⟨Nat.le_of_ble_eq_true rfl, Nat.le_of_ble_eq_true rfl⟩ (Nat.le_of_ble_eq_true rfl) rfl rfl ?_
          rintro _ w26 ⟨rfl, hC26⟩
          refine J_st (.int (nI (h a)) :: .int (nI (tlN h f t a q)) :: []) rfl ?_
          refine J_ws (((((arrI Z n1 24 (fun i => if i < (q + 1) then nI (cnN ((fun k a => dkN p h f t (toN Z) a k) i) (a + 1)) else nI (cnN ((fun k a => dkN p h f t (toN Z) a k) i) a)) ++ wSim Z s (toN Z) (toM Z) hA lA oA tA eA (fun j => some (rw j)) (fun j => some (lr j)) fo ft fe dy ca) ++ wRw Z (toN Z) rw p h f t) ++ wPl Z L) ++ wLr Z (toM Z) lr (toK Z) (toV Z)) ++ w26) (by simp only [List.append_assoc, List.append_nil, List.nil_append]) ?_
          refine J_icmpeq 288 C iL_law_283 rfl (fun h283 => ?_) (fun h283 => absurd (congrArg nI (tl_hi (fun z => hlf z.2.1))) h283)
          refine J_iload C iL_law_288 rfl ?_
          refine J_ifeqb 304 C iL_law_290 rfl (fun h290 => absurd (h290.symm.trans hdk) (by decide)) (fun h290 => ?_)
          refine J_aload_n C iL_law_293 rfl rfl ?_
          refine J_iload C iL_law_294 rfl ?_
          refine J_iload C iL_law_296 rfl ?_
          obtain ⟨fs27, hf27⟩ := CI.head hC26
          refine J_room (rc2 := 3 + (189 + 1 * (rc + 0))) (rs2 := 18 + (1134 + 1 * (rs + 0))) (by omega) (by omega) ?_
          refine J_cVb (As := [.int (nI a), .int (nI q)]) (st := []) (rc2 := 189 + 1 * (rc + 0)) (rs2 := 1134 + 1 * (rs + 0)) (w0 := (w26)) (q0 := 0) C iL_law_298 lm_L_201 yc_X8_shadedBy yv_X8_shadedBy (k_shadedBy hl (a := a) (k := q) hC26 eq0 ok0 (by omega) (by omega) hdk) rfl rfl hf27 ((((arrI Z n1 24 (fun i => if i < (q + 1) then nI (cnN ((fun k a => dkN p h f t (toN Z) a k) i) (a + 1)) else nI (cnN ((fun k a => dkN p h f t (toN Z) a k) i) a)) ++ wSim Z s (toN Z) (toM Z) hA lA oA tA eA (fun j => some (rw j)) (fun j => some (lr j)) fo ft fe dy ca) ++ wRw Z (toN Z) rw p h f t) ++ wPl Z L) ++ wLr Z (toM Z) lr (toK Z) (toV Z)) [] (by simp only [List.append_assoc, List.append_nil, List.nil_append]) rfl ⟨Nat.le_of_ble_eq_true rfl, Nat.le_of_ble_eq_true rfl⟩ (Nat.le_of_ble_eq_true rfl) rfl rfl ?_
          rintro _ w27 ⟨rfl, hC27⟩
          refine J_st (.int (opI (nrN p h f t a q (toN Z)).1) :: []) rfl ?_
          refine J_ws (((((arrI Z n1 24 (fun i => if i < (q + 1) then nI (cnN ((fun k a => dkN p h f t (toN Z) a k) i) (a + 1)) else nI (cnN ((fun k a => dkN p h f t (toN Z) a k) i) a)) ++ wSim Z s (toN Z) (toM Z) hA lA oA tA eA (fun j => some (rw j)) (fun j => some (lr j)) fo ft fe dy ca) ++ wRw Z (toN Z) rw p h f t) ++ wPl Z L) ++ wLr Z (toM Z) lr (toK Z) (toV Z)) ++ w27) (by simp only [List.append_assoc, List.append_nil, List.nil_append]) ?_
          refine J_goto 305 C iL_law_301 rfl ?_
          refine J_istore [(19, .int (opI (nrN p h f t a q (toN Z)).1)), (18, .int 0), (14, .int (nI ((cnN (fun k => dkN p h f t (toN Z) a k) q) + 1))), (17, .int (b2i (dkN p h f t (toN Z) a q))), (16, .int (nI q)), (15, .int 0), (13, .int (nI a)), (12, .ref n1), (11, .int (nI (cnN (fun a => decide (loN p h f t (toN Z) a = 0)) a))), (10, .int (nI (smN (fun a => caN p h f t (toN Z) a) a))), (9, .int (nI (smN (fun a => loN p h f t (toN Z) a) a))), (7, .long dg9), (6, .int x9), (5, .int (nI tm9)), (4, .int (nI (toN Z))), (3, .ref s), (2, .ref t9), (1, .ref (x 0)), (0, .ref (zms Z 3))] C iL_law_305 (by decide) rfl ?_
          have e14 : nI (cnN (fun k => dkN p h f t (toN Z) a k) (q + 1)) = nI ((cnN (fun k => dkN p h f t (toN Z) a k) q) + 1) := by rw [cnN_s, hdk]; rfl
          refine J_room (rc2 := 185 + 1 * (rc + 0)) (rs2 := 1110 + 1 * (rs + 0)) (by omega) (by omega) ?_
          refine J_lvm [(19, .int (opI (nrN p h f t a q (toN Z)).1)), (17, .int (b2i (dkN p h f t (toN Z) a q))), (16, .int (nI q)), (15, .int 0), (14, .int (nI (cnN (fun k => dkN p h f t (toN Z) a k) (q + 1)))), (13, .int (nI a)), (12, .ref n1), (11, .int (nI (cnN (fun a => decide (loN p h f t (toN Z) a = 0)) a))), (10, .int (nI (smN (fun a => caN p h f t (toN Z) a) a))), (9, .int (nI (smN (fun a => loN p h f t (toN Z) a) a))), (7, .long dg9), (6, .int x9), (5, .int (nI tm9)), (4, .int (nI (toN Z))), (3, .ref s), (2, .ref t9), (1, .ref (x 0)), (0, .ref (zms Z 3))] (by rw [e14]; rfl) ?_
          exact hk307 w27 hC27
    · refine J_iload C iL_law_163 rfl ?_
      refine J_iload C iL_law_165 rfl ?_
      refine J_ifeqb 174 C iL_law_167 rfl (fun h167 => ?_) (fun h167 => absurd (h167.symm.trans hdk) (by decide))
      refine J_iconst 0 C iL_law_174 rfl ?_
      refine J_iadd C iL_law_175 ?_
      rw [show (nI (cnN (fun k => dkN p h f t (toN Z) a k) q)) + 0 = nI ((cnN (fun k => dkN p h f t (toN Z) a k) q) + 0) from nI_add _ _]
      refine J_istore [(14, .int (nI ((cnN (fun k => dkN p h f t (toN Z) a k) q) + 0))), (17, .int (b2i (dkN p h f t (toN Z) a q))), (16, .int (nI q)), (15, .int 0), (13, .int (nI a)), (12, .ref n1), (11, .int (nI (cnN (fun a => decide (loN p h f t (toN Z) a = 0)) a))), (10, .int (nI (smN (fun a => caN p h f t (toN Z) a) a))), (9, .int (nI (smN (fun a => loN p h f t (toN Z) a) a))), (7, .long dg9), (6, .int x9), (5, .int (nI tm9)), (4, .int (nI (toN Z))), (3, .ref s), (2, .ref t9), (1, .ref (x 0)), (0, .ref (zms Z 3))] C iL_law_176 (by decide) rfl ?_
      refine J_aload C iL_law_178 rfl ?_
      refine J_iload C iL_law_180 rfl ?_
      refine J_dup2 C iL_law_182 rfl rfl ?_
      refine J_iald 0 C iL_law_183 rfl (vp_in_nI (n := q) (by omega) (by omega)) ?_
      rw [nI_clamp (n := q) (by omega)]
      refine J_iload C iL_law_184 rfl ?_
      refine J_ifeqb 193 C iL_law_186 rfl (fun h186 => ?_) (fun h186 => absurd (h186.symm.trans hdk) (by decide))
      refine J_iconst 0 C iL_law_193 rfl ?_
      refine J_iadd C iL_law_194 ?_
      refine J_iast (((((arrI Z n1 24 (upd (fun i => if i < q then nI (cnN ((fun k a => dkN p h f t (toN Z) a k) i) (a + 1)) else nI (cnN ((fun k a => dkN p h f t (toN Z) a k) i) a)) (nI q).toNatClampNeg (((fun i => if i < q then nI (cnN ((fun k a => dkN p h f t (toN Z) a k) i) (a + 1)) else nI (cnN ((fun k a => dkN p h f t (toN Z) a k) i) a)) q) + 0)) ++ wSim Z s (toN Z) (toM Z) hA lA oA tA eA (fun j => some (rw j)) (fun j => some (lr j)) fo ft fe dy ca) ++ wRw Z (toN Z) rw p h f t) ++ wPl Z L) ++ wLr Z (toM Z) lr (toK Z) (toV Z)) ++ w1) 0 C iL_law_195 rfl (vp_in_nI (n := q) (by omega) (by omega)) rfl ?_
      rw [nI_clamp (n := q) (by omega)]
      rw [show (((fun i => if i < q then nI (cnN ((fun k a => dkN p h f t (toN Z) a k) i) (a + 1)) else nI (cnN ((fun k a => dkN p h f t (toN Z) a k) i) a)) q) + 0 : Int32) = nI (cnN ((fun k a => dkN p h f t (toN Z) a k) q) a + 0) by dsimp only; rw [if_neg (Nat.lt_irrefl _)]; exact nI_add _ 0]
      rw [cnt_up (y := (fun k a => dkN p h f t (toN Z) a k)) _ (by rw [hdk]; rfl)]
      refine J_aload_n C iL_law_196 rfl rfl ?_
      refine J_iload C iL_law_197 rfl ?_
      obtain ⟨fs28, hf28⟩ := CI.head hC1
      refine J_room (rc2 := 1 + (197 + 1 * (rc + 0))) (rs2 := 6 + (1182 + 1 * (rs + 0))) (by omega) (by omega) ?_
      refine J_cVb (As := [.int (nI a)]) (st := []) (rc2 := 197 + 1 * (rc + 0)) (rs2 := 1182 + 1 * (rs + 0)) (w0 := (w1)) (q0 := 0) C iL_law_199 lm_L_185 yc_X8_hasCurfew yv_X8_hasCurfew (k_hasCurfew hl (a := a) hC1 eq0 ok0 (by omega)) rfl rfl hf28 ((((arrI Z n1 24 (fun i => if i < (q + 1) then nI (cnN ((fun k a => dkN p h f t (toN Z) a k) i) (a + 1)) else nI (cnN ((fun k a => dkN p h f t (toN Z) a k) i) a)) ++ wSim Z s (toN Z) (toM Z) hA lA oA tA eA (fun j => some (rw j)) (fun j => some (lr j)) fo ft fe dy ca) ++ wRw Z (toN Z) rw p h f t) ++ wPl Z L) ++ wLr Z (toM Z) lr (toK Z) (toV Z)) [] (by simp only [List.append_assoc, List.append_nil, List.nil_append]) rfl ⟨Nat.le_of_ble_eq_true rfl, Nat.le_of_ble_eq_true rfl⟩ (Nat.le_of_ble_eq_true rfl) rfl rfl ?_
      rintro _ w28 ⟨rfl, hC28⟩
      refine J_st (.int (b2i (!decide (f a = 0))) :: []) rfl ?_
      refine J_ws (((((arrI Z n1 24 (fun i => if i < (q + 1) then nI (cnN ((fun k a => dkN p h f t (toN Z) a k) i) (a + 1)) else nI (cnN ((fun k a => dkN p h f t (toN Z) a k) i) a)) ++ wSim Z s (toN Z) (toM Z) hA lA oA tA eA (fun j => some (rw j)) (fun j => some (lr j)) fo ft fe dy ca) ++ wRw Z (toN Z) rw p h f t) ++ wPl Z L) ++ wLr Z (toM Z) lr (toK Z) (toV Z)) ++ w28) (by simp only [List.append_assoc, List.append_nil, List.nil_append]) ?_
      by_cases hfa : f a = 0
      · refine J_ifeqb 231 C iL_law_202 rfl (fun h202 => ?_) (fun h202 => absurd (h202.symm.trans (by rw [decide_eq_true hfa]; first | done | rfl)) (by decide))
        refine J_iconst 0 C iL_law_231 rfl ?_
        refine J_istore [(18, .int 0), (14, .int (nI ((cnN (fun k => dkN p h f t (toN Z) a k) q) + 0))), (17, .int (b2i (dkN p h f t (toN Z) a q))), (16, .int (nI q)), (15, .int 0), (13, .int (nI a)), (12, .ref n1), (11, .int (nI (cnN (fun a => decide (loN p h f t (toN Z) a = 0)) a))), (10, .int (nI (smN (fun a => caN p h f t (toN Z) a) a))), (9, .int (nI (smN (fun a => loN p h f t (toN Z) a) a))), (7, .long dg9), (6, .int x9), (5, .int (nI tm9)), (4, .int (nI (toN Z))), (3, .ref s), (2, .ref t9), (1, .ref (x 0)), (0, .ref (zms Z 3))] C iL_law_232 (by decide) rfl ?_
        refine J_iload C iL_law_234 rfl ?_
        refine J_ifeqb 260 C iL_law_236 rfl (fun h236 => ?_) (fun h236 => absurd (h236.symm.trans hdk) (by decide))
        refine J_aload_n C iL_law_260 rfl rfl ?_
        refine J_iload C iL_law_261 rfl ?_
        refine J_iload C iL_law_263 rfl ?_
        obtain ⟨fs29, hf29⟩ := CI.head hC28
        refine J_room (rc2 := 2 + (195 + 1 * (rc + 0))) (rs2 := 12 + (1170 + 1 * (rs + 0))) (by omega) (by omega) ?_
        refine J_cVb (As := [.int (nI a), .int (nI q)]) (st := []) (rc2 := 195 + 1 * (rc + 0)) (rs2 := 1170 + 1 * (rs + 0)) (w0 := (w28)) (q0 := 0) C iL_law_265 lm_L_195 yc_X8_heightAt yv_X8_heightAt (k_heightAt hl (a := a) (k := q) hC28 eq0 ok0 (by omega) (by omega)) rfl rfl hf29 ((((arrI Z n1 24 (fun i => if i < (q + 1) then nI (cnN ((fun k a => dkN p h f t (toN Z) a k) i) (a + 1)) else nI (cnN ((fun k a => dkN p h f t (toN Z) a k) i) a)) ++ wSim Z s (toN Z) (toM Z) hA lA oA tA eA (fun j => some (rw j)) (fun j => some (lr j)) fo ft fe dy ca) ++ wRw Z (toN Z) rw p h f t) ++ wPl Z L) ++ wLr Z (toM Z) lr (toK Z) (toV Z)) [] (by simp only [List.append_assoc, List.append_nil, List.nil_append]) rfl ⟨Nat.le_of_ble_eq_true rfl, Nat.le_of_ble_eq_true rfl⟩ (Nat.le_of_ble_eq_true rfl) rfl rfl ?_
        rintro _ w29 ⟨rfl, hC29⟩
        refine J_st (.int (nI (tlN h f t a q)) :: []) rfl ?_
        refine J_ws (((((arrI Z n1 24 (fun i => if i < (q + 1) then nI (cnN ((fun k a => dkN p h f t (toN Z) a k) i) (a + 1)) else nI (cnN ((fun k a => dkN p h f t (toN Z) a k) i) a)) ++ wSim Z s (toN Z) (toM Z) hA lA oA tA eA (fun j => some (rw j)) (fun j => some (lr j)) fo ft fe dy ca) ++ wRw Z (toN Z) rw p h f t) ++ wPl Z L) ++ wLr Z (toM Z) lr (toK Z) (toV Z)) ++ w29) (by simp only [List.append_assoc, List.append_nil, List.nil_append]) ?_
        refine J_iload C iL_law_268 rfl ?_
        refine J_ifeq 277 C iL_law_270 rfl (fun h270 => ?_) (fun h270 => absurd rfl h270)
        refine J_aload_n C iL_law_277 rfl rfl ?_
        refine J_iload C iL_law_278 rfl ?_
        obtain ⟨fs30, hf30⟩ := CI.head hC29
        refine J_room (rc2 := 1 + (194 + 1 * (rc + 0))) (rs2 := 6 + (1164 + 1 * (rs + 0))) (by omega) (by omega) ?_
        refine J_cVb (As := [.int (nI a)]) (st := .int (nI (tlN h f t a q)) :: []) (rc2 := 194 + 1 * (rc + 0)) (rs2 := 1164 + 1 * (rs + 0)) (w0 := (w29)) (q0 := 0) C iL_law_280 lm_L_198 yc_X8_heightOf yv_X8_heightOf (k_heightOf hl (a := a) hC29 eq0 ok0 (by omega)) rfl rfl hf30 ((((arrI Z n1 24 (fun i => if i < (q + 1) then nI (cnN ((fun k a => dkN p h f t (toN Z) a k) i) (a + 1)) else nI (cnN ((fun k a => dkN p h f t (toN Z) a k) i) a)) ++ wSim Z s (toN Z) (toM Z) hA lA oA tA eA (fun j => some (rw j)) (fun j => some (lr j)) fo ft fe dy ca) ++ wRw Z (toN Z) rw p h f t) ++ wPl Z L) ++ wLr Z (toM Z) lr (toK Z) (toV Z)) [] (by simp only [List.append_assoc, List.append_nil, List.nil_append]) rfl ⟨Nat.le_of_ble_eq_true rfl, Nat.le_of_ble_eq_true rfl⟩ (Nat.le_of_ble_eq_true rfl) rfl rfl ?_
        rintro _ w30 ⟨rfl, hC30⟩
        refine J_st (.int (nI (h a)) :: .int (nI (tlN h f t a q)) :: []) rfl ?_
        refine J_ws (((((arrI Z n1 24 (fun i => if i < (q + 1) then nI (cnN ((fun k a => dkN p h f t (toN Z) a k) i) (a + 1)) else nI (cnN ((fun k a => dkN p h f t (toN Z) a k) i) a)) ++ wSim Z s (toN Z) (toM Z) hA lA oA tA eA (fun j => some (rw j)) (fun j => some (lr j)) fo ft fe dy ca) ++ wRw Z (toN Z) rw p h f t) ++ wPl Z L) ++ wLr Z (toM Z) lr (toK Z) (toV Z)) ++ w30) (by simp only [List.append_assoc, List.append_nil, List.nil_append]) ?_
        refine J_icmpeq 288 C iL_law_283 rfl (fun h283 => ?_) (fun h283 => absurd (congrArg nI (tl_hi (fun z => z.1 hfa))) h283)
        refine J_iload C iL_law_288 rfl ?_
        refine J_ifeqb 304 C iL_law_290 rfl (fun h290 => ?_) (fun h290 => absurd (h290.symm.trans hdk) (by decide))
        refine J_iconst (-1) C iL_law_304 rfl ?_
        refine J_istore [(19, .int (-1)), (18, .int 0), (14, .int (nI ((cnN (fun k => dkN p h f t (toN Z) a k) q) + 0))), (17, .int (b2i (dkN p h f t (toN Z) a q))), (16, .int (nI q)), (15, .int 0), (13, .int (nI a)), (12, .ref n1), (11, .int (nI (cnN (fun a => decide (loN p h f t (toN Z) a = 0)) a))), (10, .int (nI (smN (fun a => caN p h f t (toN Z) a) a))), (9, .int (nI (smN (fun a => loN p h f t (toN Z) a) a))), (7, .long dg9), (6, .int x9), (5, .int (nI tm9)), (4, .int (nI (toN Z))), (3, .ref s), (2, .ref t9), (1, .ref (x 0)), (0, .ref (zms Z 3))] C iL_law_305 (by decide) rfl ?_
        have e14 : nI (cnN (fun k => dkN p h f t (toN Z) a k) (q + 1)) = nI ((cnN (fun k => dkN p h f t (toN Z) a k) q) + 0) := by rw [cnN_s, hdk]; rfl
        have e19 : opI (nrN p h f t a q (toN Z)).1 = -1 := by unfold dkN at hdk; cases z : (nrN p h f t a q (toN Z)).1 with | none => rfl | some c => rw [z] at hdk; cases hdk
        refine J_room (rc2 := 185 + 1 * (rc + 0)) (rs2 := 1110 + 1 * (rs + 0)) (by omega) (by omega) ?_
        refine J_lvm [(19, .int (opI (nrN p h f t a q (toN Z)).1)), (17, .int (b2i (dkN p h f t (toN Z) a q))), (16, .int (nI q)), (15, .int 0), (14, .int (nI (cnN (fun k => dkN p h f t (toN Z) a k) (q + 1)))), (13, .int (nI a)), (12, .ref n1), (11, .int (nI (cnN (fun a => decide (loN p h f t (toN Z) a = 0)) a))), (10, .int (nI (smN (fun a => caN p h f t (toN Z) a) a))), (9, .int (nI (smN (fun a => loN p h f t (toN Z) a) a))), (7, .long dg9), (6, .int x9), (5, .int (nI tm9)), (4, .int (nI (toN Z))), (3, .ref s), (2, .ref t9), (1, .ref (x 0)), (0, .ref (zms Z 3))] (by rw [e14, e19]; rfl) ?_
        exact hk307 w30 hC30
      · refine J_ifeqb 231 C iL_law_202 rfl (fun h202 => absurd (h202.symm.trans (by rw [decide_eq_false hfa]; first | done | rfl)) (by decide)) (fun h202 => ?_)
        refine J_iload C iL_law_205 rfl ?_
        refine J_aload_n C iL_law_207 rfl rfl ?_
        refine J_iload C iL_law_208 rfl ?_
        obtain ⟨fs31, hf31⟩ := CI.head hC28
        refine J_room (rc2 := 2 + (195 + 1 * (rc + 0))) (rs2 := 12 + (1170 + 1 * (rs + 0))) (by omega) (by omega) ?_
        refine J_cVb (As := [.int (nI a)]) (st := .int (nI q) :: []) (rc2 := 195 + 1 * (rc + 0)) (rs2 := 1170 + 1 * (rs + 0)) (w0 := (w28)) (q0 := 0) C iL_law_210 lm_L_189 yc_X8_curfewFrom yv_X8_curfewFrom (k_curfewFrom hl (a := a) hC28 eq0 ok0 (by omega) hfa) rfl rfl hf31 ((((arrI Z n1 24 (fun i => if i < (q + 1) then nI (cnN ((fun k a => dkN p h f t (toN Z) a k) i) (a + 1)) else nI (cnN ((fun k a => dkN p h f t (toN Z) a k) i) a)) ++ wSim Z s (toN Z) (toM Z) hA lA oA tA eA (fun j => some (rw j)) (fun j => some (lr j)) fo ft fe dy ca) ++ wRw Z (toN Z) rw p h f t) ++ wPl Z L) ++ wLr Z (toM Z) lr (toK Z) (toV Z)) [] (by simp only [List.append_assoc, List.append_nil, List.nil_append]) rfl ⟨Nat.le_of_ble_eq_true rfl, Nat.le_of_ble_eq_true rfl⟩ (Nat.le_of_ble_eq_true rfl) rfl rfl ?_
        rintro _ w31 ⟨rfl, hC31⟩
        refine J_st (.int (cuI (f a)) :: .int (nI q) :: []) rfl ?_
        refine J_ws (((((arrI Z n1 24 (fun i => if i < (q + 1) then nI (cnN ((fun k a => dkN p h f t (toN Z) a k) i) (a + 1)) else nI (cnN ((fun k a => dkN p h f t (toN Z) a k) i) a)) ++ wSim Z s (toN Z) (toM Z) hA lA oA tA eA (fun j => some (rw j)) (fun j => some (lr j)) fo ft fe dy ca) ++ wRw Z (toN Z) rw p h f t) ++ wPl Z L) ++ wLr Z (toM Z) lr (toK Z) (toV Z)) ++ w31) (by simp only [List.append_assoc, List.append_nil, List.nil_append]) ?_
        by_cases hlf : f a ≤ q
        · refine J_icmplt 231 C iL_law_213 rfl (fun h213 => absurd h213 (by rw [cu_nI hfa]; exact nI_nlt hlf (by omega))) (fun h213 => ?_)
          refine J_iload C iL_law_216 rfl ?_
          refine J_aload_n C iL_law_218 rfl rfl ?_
          refine J_iload C iL_law_219 rfl ?_
          obtain ⟨fs32, hf32⟩ := CI.head hC31
          refine J_room (rc2 := 2 + (193 + 1 * (rc + 0))) (rs2 := 12 + (1158 + 1 * (rs + 0))) (by omega) (by omega) ?_
          refine J_cVb (As := [.int (nI a)]) (st := .int (nI q) :: []) (rc2 := 193 + 1 * (rc + 0)) (rs2 := 1158 + 1 * (rs + 0)) (w0 := (w31)) (q0 := 0) C iL_law_221 lm_L_192 yc_X8_curfewTo yv_X8_curfewTo (k_curfewTo hl (a := a) hC31 eq0 ok0 (by omega) hfa) rfl rfl hf32 ((((arrI Z n1 24 (fun i => if i < (q + 1) then nI (cnN ((fun k a => dkN p h f t (toN Z) a k) i) (a + 1)) else nI (cnN ((fun k a => dkN p h f t (toN Z) a k) i) a)) ++ wSim Z s (toN Z) (toM Z) hA lA oA tA eA (fun j => some (rw j)) (fun j => some (lr j)) fo ft fe dy ca) ++ wRw Z (toN Z) rw p h f t) ++ wPl Z L) ++ wLr Z (toM Z) lr (toK Z) (toV Z)) [] (by simp only [List.append_assoc, List.append_nil, List.nil_append]) rfl ⟨Nat.le_of_ble_eq_true rfl, Nat.le_of_ble_eq_true rfl⟩ (Nat.le_of_ble_eq_true rfl) rfl rfl ?_
          rintro _ w32 ⟨rfl, hC32⟩
          refine J_st (.int (cuI (t a)) :: .int (nI q) :: []) rfl ?_
          refine J_ws (((((arrI Z n1 24 (fun i => if i < (q + 1) then nI (cnN ((fun k a => dkN p h f t (toN Z) a k) i) (a + 1)) else nI (cnN ((fun k a => dkN p h f t (toN Z) a k) i) a)) ++ wSim Z s (toN Z) (toM Z) hA lA oA tA eA (fun j => some (rw j)) (fun j => some (lr j)) fo ft fe dy ca) ++ wRw Z (toN Z) rw p h f t) ++ wPl Z L) ++ wLr Z (toM Z) lr (toK Z) (toV Z)) ++ w32) (by simp only [List.append_assoc, List.append_nil, List.nil_append]) ?_
          by_cases hlt : q ≤ t a
          · refine J_icmpgt 231 C iL_law_224 rfl (fun h224 => absurd h224 (by rw [cu_nI (show ¬ t a = 0 by omega)]; exact nI_nlt hlt (by omega))) (fun h224 => ?_)
            refine J_iconst 1 C iL_law_227 rfl ?_
            refine J_goto 232 C iL_law_228 rfl ?_
            refine J_istore [(18, .int 1), (14, .int (nI ((cnN (fun k => dkN p h f t (toN Z) a k) q) + 0))), (17, .int (b2i (dkN p h f t (toN Z) a q))), (16, .int (nI q)), (15, .int 0), (13, .int (nI a)), (12, .ref n1), (11, .int (nI (cnN (fun a => decide (loN p h f t (toN Z) a = 0)) a))), (10, .int (nI (smN (fun a => caN p h f t (toN Z) a) a))), (9, .int (nI (smN (fun a => loN p h f t (toN Z) a) a))), (7, .long dg9), (6, .int x9), (5, .int (nI tm9)), (4, .int (nI (toN Z))), (3, .ref s), (2, .ref t9), (1, .ref (x 0)), (0, .ref (zms Z 3))] C iL_law_232 (by decide) rfl ?_
            refine J_iload C iL_law_234 rfl ?_
            refine J_ifeqb 260 C iL_law_236 rfl (fun h236 => ?_) (fun h236 => absurd (h236.symm.trans hdk) (by decide))
            refine J_aload_n C iL_law_260 rfl rfl ?_
            refine J_iload C iL_law_261 rfl ?_
            refine J_iload C iL_law_263 rfl ?_
            obtain ⟨fs33, hf33⟩ := CI.head hC32
            refine J_room (rc2 := 2 + (191 + 1 * (rc + 0))) (rs2 := 12 + (1146 + 1 * (rs + 0))) (by omega) (by omega) ?_
            refine J_cVb (As := [.int (nI a), .int (nI q)]) (st := []) (rc2 := 191 + 1 * (rc + 0)) (rs2 := 1146 + 1 * (rs + 0)) (w0 := (w32)) (q0 := 0) C iL_law_265 lm_L_195 yc_X8_heightAt yv_X8_heightAt (k_heightAt hl (a := a) (k := q) hC32 eq0 ok0 (by omega) (by omega)) rfl rfl hf33 ((((arrI Z n1 24 (fun i => if i < (q + 1) then nI (cnN ((fun k a => dkN p h f t (toN Z) a k) i) (a + 1)) else nI (cnN ((fun k a => dkN p h f t (toN Z) a k) i) a)) ++ wSim Z s (toN Z) (toM Z) hA lA oA tA eA (fun j => some (rw j)) (fun j => some (lr j)) fo ft fe dy ca) ++ wRw Z (toN Z) rw p h f t) ++ wPl Z L) ++ wLr Z (toM Z) lr (toK Z) (toV Z)) [] (by simp only [List.append_assoc, List.append_nil, List.nil_append]) rfl ⟨Nat.le_of_ble_eq_true rfl, Nat.le_of_ble_eq_true rfl⟩ (Nat.le_of_ble_eq_true rfl) rfl rfl ?_
            rintro _ w33 ⟨rfl, hC33⟩
            refine J_st (.int (nI (tlN h f t a q)) :: []) rfl ?_
            refine J_ws (((((arrI Z n1 24 (fun i => if i < (q + 1) then nI (cnN ((fun k a => dkN p h f t (toN Z) a k) i) (a + 1)) else nI (cnN ((fun k a => dkN p h f t (toN Z) a k) i) a)) ++ wSim Z s (toN Z) (toM Z) hA lA oA tA eA (fun j => some (rw j)) (fun j => some (lr j)) fo ft fe dy ca) ++ wRw Z (toN Z) rw p h f t) ++ wPl Z L) ++ wLr Z (toM Z) lr (toK Z) (toV Z)) ++ w33) (by simp only [List.append_assoc, List.append_nil, List.nil_append]) ?_
            refine J_iload C iL_law_268 rfl ?_
            refine J_ifeq 277 C iL_law_270 rfl (fun h270 => absurd h270 (by decide)) (fun h270 => ?_)
            refine J_iconst 0 C iL_law_273 rfl ?_
            refine J_goto 283 C iL_law_274 rfl ?_
            refine J_icmpeq 288 C iL_law_283 rfl (fun h283 => ?_) (fun h283 => absurd (congrArg nI (tl_lo hfa hlf hlt)) h283)
            refine J_iload C iL_law_288 rfl ?_
            refine J_ifeqb 304 C iL_law_290 rfl (fun h290 => ?_) (fun h290 => absurd (h290.symm.trans hdk) (by decide))
            refine J_iconst (-1) C iL_law_304 rfl ?_
            refine J_istore [(19, .int (-1)), (18, .int 1), (14, .int (nI ((cnN (fun k => dkN p h f t (toN Z) a k) q) + 0))), (17, .int (b2i (dkN p h f t (toN Z) a q))), (16, .int (nI q)), (15, .int 0), (13, .int (nI a)), (12, .ref n1), (11, .int (nI (cnN (fun a => decide (loN p h f t (toN Z) a = 0)) a))), (10, .int (nI (smN (fun a => caN p h f t (toN Z) a) a))), (9, .int (nI (smN (fun a => loN p h f t (toN Z) a) a))), (7, .long dg9), (6, .int x9), (5, .int (nI tm9)), (4, .int (nI (toN Z))), (3, .ref s), (2, .ref t9), (1, .ref (x 0)), (0, .ref (zms Z 3))] C iL_law_305 (by decide) rfl ?_
            have e14 : nI (cnN (fun k => dkN p h f t (toN Z) a k) (q + 1)) = nI ((cnN (fun k => dkN p h f t (toN Z) a k) q) + 0) := by rw [cnN_s, hdk]; rfl
            have e19 : opI (nrN p h f t a q (toN Z)).1 = -1 := by unfold dkN at hdk; cases z : (nrN p h f t a q (toN Z)).1 with | none => rfl | some c => rw [z] at hdk; cases hdk
            refine J_room (rc2 := 185 + 1 * (rc + 0)) (rs2 := 1110 + 1 * (rs + 0)) (by omega) (by omega) ?_
            refine J_lvm [(19, .int (opI (nrN p h f t a q (toN Z)).1)), (17, .int (b2i (dkN p h f t (toN Z) a q))), (16, .int (nI q)), (15, .int 0), (14, .int (nI (cnN (fun k => dkN p h f t (toN Z) a k) (q + 1)))), (13, .int (nI a)), (12, .ref n1), (11, .int (nI (cnN (fun a => decide (loN p h f t (toN Z) a = 0)) a))), (10, .int (nI (smN (fun a => caN p h f t (toN Z) a) a))), (9, .int (nI (smN (fun a => loN p h f t (toN Z) a) a))), (7, .long dg9), (6, .int x9), (5, .int (nI tm9)), (4, .int (nI (toN Z))), (3, .ref s), (2, .ref t9), (1, .ref (x 0)), (0, .ref (zms Z 3))] (by rw [e14, e19]; rfl) ?_
            exact hk307 w33 hC33
          · refine J_icmpgt 231 C iL_law_224 rfl (fun h224 => ?_) (fun h224 => absurd (by rw [cu_nI (show ¬ t a = 0 by omega)]; exact nI_lt (by omega) (by omega)) h224)
            refine J_iconst 0 C iL_law_231 rfl ?_
            refine J_istore [(18, .int 0), (14, .int (nI ((cnN (fun k => dkN p h f t (toN Z) a k) q) + 0))), (17, .int (b2i (dkN p h f t (toN Z) a q))), (16, .int (nI q)), (15, .int 0), (13, .int (nI a)), (12, .ref n1), (11, .int (nI (cnN (fun a => decide (loN p h f t (toN Z) a = 0)) a))), (10, .int (nI (smN (fun a => caN p h f t (toN Z) a) a))), (9, .int (nI (smN (fun a => loN p h f t (toN Z) a) a))), (7, .long dg9), (6, .int x9), (5, .int (nI tm9)), (4, .int (nI (toN Z))), (3, .ref s), (2, .ref t9), (1, .ref (x 0)), (0, .ref (zms Z 3))] C iL_law_232 (by decide) rfl ?_
            refine J_iload C iL_law_234 rfl ?_
            refine J_ifeqb 260 C iL_law_236 rfl (fun h236 => ?_) (fun h236 => absurd (h236.symm.trans hdk) (by decide))
            refine J_aload_n C iL_law_260 rfl rfl ?_
            refine J_iload C iL_law_261 rfl ?_
            refine J_iload C iL_law_263 rfl ?_
            obtain ⟨fs34, hf34⟩ := CI.head hC32
            refine J_room (rc2 := 2 + (191 + 1 * (rc + 0))) (rs2 := 12 + (1146 + 1 * (rs + 0))) (by omega) (by omega) ?_
            refine J_cVb (As := [.int (nI a), .int (nI q)]) (st := []) (rc2 := 191 + 1 * (rc + 0)) (rs2 := 1146 + 1 * (rs + 0)) (w0 := (w32)) (q0 := 0) C iL_law_265 lm_L_195 yc_X8_heightAt yv_X8_heightAt (k_heightAt hl (a := a) (k := q) hC32 eq0 ok0 (by omega) (by omega)) rfl rfl hf34 ((((arrI Z n1 24 (fun i => if i < (q + 1) then nI (cnN ((fun k a => dkN p h f t (toN Z) a k) i) (a + 1)) else nI (cnN ((fun k a => dkN p h f t (toN Z) a k) i) a)) ++ wSim Z s (toN Z) (toM Z) hA lA oA tA eA (fun j => some (rw j)) (fun j => some (lr j)) fo ft fe dy ca) ++ wRw Z (toN Z) rw p h f t) ++ wPl Z L) ++ wLr Z (toM Z) lr (toK Z) (toV Z)) [] (by simp only [List.append_assoc, List.append_nil, List.nil_append]) rfl ⟨Nat.le_of_ble_eq_true rfl, Nat.le_of_ble_eq_true rfl⟩ (Nat.le_of_ble_eq_true rfl) rfl rfl ?_
            rintro _ w34 ⟨rfl, hC34⟩
            refine J_st (.int (nI (tlN h f t a q)) :: []) rfl ?_
            refine J_ws (((((arrI Z n1 24 (fun i => if i < (q + 1) then nI (cnN ((fun k a => dkN p h f t (toN Z) a k) i) (a + 1)) else nI (cnN ((fun k a => dkN p h f t (toN Z) a k) i) a)) ++ wSim Z s (toN Z) (toM Z) hA lA oA tA eA (fun j => some (rw j)) (fun j => some (lr j)) fo ft fe dy ca) ++ wRw Z (toN Z) rw p h f t) ++ wPl Z L) ++ wLr Z (toM Z) lr (toK Z) (toV Z)) ++ w34) (by simp only [List.append_assoc, List.append_nil, List.nil_append]) ?_
            refine J_iload C iL_law_268 rfl ?_
            refine J_ifeq 277 C iL_law_270 rfl (fun h270 => ?_) (fun h270 => absurd rfl h270)
            refine J_aload_n C iL_law_277 rfl rfl ?_
            refine J_iload C iL_law_278 rfl ?_
            obtain ⟨fs35, hf35⟩ := CI.head hC34
            refine J_room (rc2 := 1 + (190 + 1 * (rc + 0))) (rs2 := 6 + (1140 + 1 * (rs + 0))) (by omega) (by omega) ?_
            refine J_cVb (As := [.int (nI a)]) (st := .int (nI (tlN h f t a q)) :: []) (rc2 := 190 + 1 * (rc + 0)) (rs2 := 1140 + 1 * (rs + 0)) (w0 := (w34)) (q0 := 0) C iL_law_280 lm_L_198 yc_X8_heightOf yv_X8_heightOf (k_heightOf hl (a := a) hC34 eq0 ok0 (by omega)) rfl rfl hf35 ((((arrI Z n1 24 (fun i => if i < (q + 1) then nI (cnN ((fun k a => dkN p h f t (toN Z) a k) i) (a + 1)) else nI (cnN ((fun k a => dkN p h f t (toN Z) a k) i) a)) ++ wSim Z s (toN Z) (toM Z) hA lA oA tA eA (fun j => some (rw j)) (fun j => some (lr j)) fo ft fe dy ca) ++ wRw Z (toN Z) rw p h f t) ++ wPl Z L) ++ wLr Z (toM Z) lr (toK Z) (toV Z)) [] (by simp only [List.append_assoc, List.append_nil, List.nil_append]) rfl ⟨Nat.le_of_ble_eq_true rfl, Nat.le_of_ble_eq_true rfl⟩ (Nat.le_of_ble_eq_true rfl) rfl rfl ?_
            rintro _ w35 ⟨rfl, hC35⟩
            refine J_st (.int (nI (h a)) :: .int (nI (tlN h f t a q)) :: []) rfl ?_
            refine J_ws (((((arrI Z n1 24 (fun i => if i < (q + 1) then nI (cnN ((fun k a => dkN p h f t (toN Z) a k) i) (a + 1)) else nI (cnN ((fun k a => dkN p h f t (toN Z) a k) i) a)) ++ wSim Z s (toN Z) (toM Z) hA lA oA tA eA (fun j => some (rw j)) (fun j => some (lr j)) fo ft fe dy ca) ++ wRw Z (toN Z) rw p h f t) ++ wPl Z L) ++ wLr Z (toM Z) lr (toK Z) (toV Z)) ++ w35) (by simp only [List.append_assoc, List.append_nil, List.nil_append]) ?_
            refine J_icmpeq 288 C iL_law_283 rfl (fun h283 => ?_) (fun h283 => absurd (congrArg nI (tl_hi (fun z => hlt z.2.2))) h283)
            refine J_iload C iL_law_288 rfl ?_
            refine J_ifeqb 304 C iL_law_290 rfl (fun h290 => ?_) (fun h290 => absurd (h290.symm.trans hdk) (by decide))
            refine J_iconst (-1) C iL_law_304 rfl ?_
            refine J_istore [(19, .int (-1)), (18, .int 0), (14, .int (nI ((cnN (fun k => dkN p h f t (toN Z) a k) q) + 0))), (17, .int (b2i (dkN p h f t (toN Z) a q))), (16, .int (nI q)), (15, .int 0), (13, .int (nI a)), (12, .ref n1), (11, .int (nI (cnN (fun a => decide (loN p h f t (toN Z) a = 0)) a))), (10, .int (nI (smN (fun a => caN p h f t (toN Z) a) a))), (9, .int (nI (smN (fun a => loN p h f t (toN Z) a) a))), (7, .long dg9), (6, .int x9), (5, .int (nI tm9)), (4, .int (nI (toN Z))), (3, .ref s), (2, .ref t9), (1, .ref (x 0)), (0, .ref (zms Z 3))] C iL_law_305 (by decide) rfl ?_
            have e14 : nI (cnN (fun k => dkN p h f t (toN Z) a k) (q + 1)) = nI ((cnN (fun k => dkN p h f t (toN Z) a k) q) + 0) := by rw [cnN_s, hdk]; rfl
            have e19 : opI (nrN p h f t a q (toN Z)).1 = -1 := by unfold dkN at hdk; cases z : (nrN p h f t a q (toN Z)).1 with | none => rfl | some c => rw [z] at hdk; cases hdk
            refine J_room (rc2 := 185 + 1 * (rc + 0)) (rs2 := 1110 + 1 * (rs + 0)) (by omega) (by omega) ?_
            refine J_lvm [(19, .int (opI (nrN p h f t a q (toN Z)).1)), (17, .int (b2i (dkN p h f t (toN Z) a q))), (16, .int (nI q)), (15, .int 0), (14, .int (nI (cnN (fun k => dkN p h f t (toN Z) a k) (q + 1)))), (13, .int (nI a)), (12, .ref n1), (11, .int (nI (cnN (fun a => decide (loN p h f t (toN Z) a = 0)) a))), (10, .int (nI (smN (fun a => caN p h f t (toN Z) a) a))), (9, .int (nI (smN (fun a => loN p h f t (toN Z) a) a))), (7, .long dg9), (6, .int x9), (5, .int (nI tm9)), (4, .int (nI (toN Z))), (3, .ref s), (2, .ref t9), (1, .ref (x 0)), (0, .ref (zms Z 3))] (by rw [e14, e19]; rfl) ?_
            exact hk307 w35 hC35
        · refine J_icmplt 231 C iL_law_213 rfl (fun h213 => ?_) (fun h213 => absurd (by rw [cu_nI hfa]; exact nI_lt (by omega) (by omega)) h213)
          refine J_iconst 0 C iL_law_231 rfl ?_
          refine J_istore [(18, .int 0), (14, .int (nI ((cnN (fun k => dkN p h f t (toN Z) a k) q) + 0))), (17, .int (b2i (dkN p h f t (toN Z) a q))), (16, .int (nI q)), (15, .int 0), (13, .int (nI a)), (12, .ref n1), (11, .int (nI (cnN (fun a => decide (loN p h f t (toN Z) a = 0)) a))), (10, .int (nI (smN (fun a => caN p h f t (toN Z) a) a))), (9, .int (nI (smN (fun a => loN p h f t (toN Z) a) a))), (7, .long dg9), (6, .int x9), (5, .int (nI tm9)), (4, .int (nI (toN Z))), (3, .ref s), (2, .ref t9), (1, .ref (x 0)), (0, .ref (zms Z 3))] C iL_law_232 (by decide) rfl ?_
          refine J_iload C iL_law_234 rfl ?_
          refine J_ifeqb 260 C iL_law_236 rfl (fun h236 => ?_) (fun h236 => absurd (h236.symm.trans hdk) (by decide))
          refine J_aload_n C iL_law_260 rfl rfl ?_
          refine J_iload C iL_law_261 rfl ?_
          refine J_iload C iL_law_263 rfl ?_
          obtain ⟨fs36, hf36⟩ := CI.head hC31
          refine J_room (rc2 := 2 + (193 + 1 * (rc + 0))) (rs2 := 12 + (1158 + 1 * (rs + 0))) (by omega) (by omega) ?_
          refine J_cVb (As := [.int (nI a), .int (nI q)]) (st := []) (rc2 := 193 + 1 * (rc + 0)) (rs2 := 1158 + 1 * (rs + 0)) (w0 := (w31)) (q0 := 0) C iL_law_265 lm_L_195 yc_X8_heightAt yv_X8_heightAt (k_heightAt hl (a := a) (k := q) hC31 eq0 ok0 (by omega) (by omega)) rfl rfl hf36 ((((arrI Z n1 24 (fun i => if i < (q + 1) then nI (cnN ((fun k a => dkN p h f t (toN Z) a k) i) (a + 1)) else nI (cnN ((fun k a => dkN p h f t (toN Z) a k) i) a)) ++ wSim Z s (toN Z) (toM Z) hA lA oA tA eA (fun j => some (rw j)) (fun j => some (lr j)) fo ft fe dy ca) ++ wRw Z (toN Z) rw p h f t) ++ wPl Z L) ++ wLr Z (toM Z) lr (toK Z) (toV Z)) [] (by simp only [List.append_assoc, List.append_nil, List.nil_append]) rfl ⟨Nat.le_of_ble_eq_true rfl, Nat.le_of_ble_eq_true rfl⟩ (Nat.le_of_ble_eq_true rfl) rfl rfl ?_
          rintro _ w36 ⟨rfl, hC36⟩
          refine J_st (.int (nI (tlN h f t a q)) :: []) rfl ?_
          refine J_ws (((((arrI Z n1 24 (fun i => if i < (q + 1) then nI (cnN ((fun k a => dkN p h f t (toN Z) a k) i) (a + 1)) else nI (cnN ((fun k a => dkN p h f t (toN Z) a k) i) a)) ++ wSim Z s (toN Z) (toM Z) hA lA oA tA eA (fun j => some (rw j)) (fun j => some (lr j)) fo ft fe dy ca) ++ wRw Z (toN Z) rw p h f t) ++ wPl Z L) ++ wLr Z (toM Z) lr (toK Z) (toV Z)) ++ w36) (by simp only [List.append_assoc, List.append_nil, List.nil_append]) ?_
          refine J_iload C iL_law_268 rfl ?_
          refine J_ifeq 277 C iL_law_270 rfl (fun h270 => ?_) (fun h270 => absurd rfl h270)
          refine J_aload_n C iL_law_277 rfl rfl ?_
          refine J_iload C iL_law_278 rfl ?_
          obtain ⟨fs37, hf37⟩ := CI.head hC36
          refine J_room (rc2 := 1 + (192 + 1 * (rc + 0))) (rs2 := 6 + (1152 + 1 * (rs + 0))) (by omega) (by omega) ?_
          refine J_cVb (As := [.int (nI a)]) (st := .int (nI (tlN h f t a q)) :: []) (rc2 := 192 + 1 * (rc + 0)) (rs2 := 1152 + 1 * (rs + 0)) (w0 := (w36)) (q0 := 0) C iL_law_280 lm_L_198 yc_X8_heightOf yv_X8_heightOf (k_heightOf hl (a := a) hC36 eq0 ok0 (by omega)) rfl rfl hf37 ((((arrI Z n1 24 (fun i => if i < (q + 1) then nI (cnN ((fun k a => dkN p h f t (toN Z) a k) i) (a + 1)) else nI (cnN ((fun k a => dkN p h f t (toN Z) a k) i) a)) ++ wSim Z s (toN Z) (toM Z) hA lA oA tA eA (fun j => some (rw j)) (fun j => some (lr j)) fo ft fe dy ca) ++ wRw Z (toN Z) rw p h f t) ++ wPl Z L) ++ wLr Z (toM Z) lr (toK Z) (toV Z)) [] (by simp only [List.append_assoc, List.append_nil, List.nil_append]) rfl ⟨Nat.le_of_ble_eq_true rfl, Nat.le_of_ble_eq_true rfl⟩ (Nat.le_of_ble_eq_true rfl) rfl rfl ?_
          rintro _ w37 ⟨rfl, hC37⟩
          refine J_st (.int (nI (h a)) :: .int (nI (tlN h f t a q)) :: []) rfl ?_
          refine J_ws (((((arrI Z n1 24 (fun i => if i < (q + 1) then nI (cnN ((fun k a => dkN p h f t (toN Z) a k) i) (a + 1)) else nI (cnN ((fun k a => dkN p h f t (toN Z) a k) i) a)) ++ wSim Z s (toN Z) (toM Z) hA lA oA tA eA (fun j => some (rw j)) (fun j => some (lr j)) fo ft fe dy ca) ++ wRw Z (toN Z) rw p h f t) ++ wPl Z L) ++ wLr Z (toM Z) lr (toK Z) (toV Z)) ++ w37) (by simp only [List.append_assoc, List.append_nil, List.nil_append]) ?_
          refine J_icmpeq 288 C iL_law_283 rfl (fun h283 => ?_) (fun h283 => absurd (congrArg nI (tl_hi (fun z => hlf z.2.1))) h283)
          refine J_iload C iL_law_288 rfl ?_
          refine J_ifeqb 304 C iL_law_290 rfl (fun h290 => ?_) (fun h290 => absurd (h290.symm.trans hdk) (by decide))
          refine J_iconst (-1) C iL_law_304 rfl ?_
          refine J_istore [(19, .int (-1)), (18, .int 0), (14, .int (nI ((cnN (fun k => dkN p h f t (toN Z) a k) q) + 0))), (17, .int (b2i (dkN p h f t (toN Z) a q))), (16, .int (nI q)), (15, .int 0), (13, .int (nI a)), (12, .ref n1), (11, .int (nI (cnN (fun a => decide (loN p h f t (toN Z) a = 0)) a))), (10, .int (nI (smN (fun a => caN p h f t (toN Z) a) a))), (9, .int (nI (smN (fun a => loN p h f t (toN Z) a) a))), (7, .long dg9), (6, .int x9), (5, .int (nI tm9)), (4, .int (nI (toN Z))), (3, .ref s), (2, .ref t9), (1, .ref (x 0)), (0, .ref (zms Z 3))] C iL_law_305 (by decide) rfl ?_
          have e14 : nI (cnN (fun k => dkN p h f t (toN Z) a k) (q + 1)) = nI ((cnN (fun k => dkN p h f t (toN Z) a k) q) + 0) := by rw [cnN_s, hdk]; rfl
          have e19 : opI (nrN p h f t a q (toN Z)).1 = -1 := by unfold dkN at hdk; cases z : (nrN p h f t a q (toN Z)).1 with | none => rfl | some c => rw [z] at hdk; cases hdk
          refine J_room (rc2 := 185 + 1 * (rc + 0)) (rs2 := 1110 + 1 * (rs + 0)) (by omega) (by omega) ?_
          refine J_lvm [(19, .int (opI (nrN p h f t a q (toN Z)).1)), (17, .int (b2i (dkN p h f t (toN Z) a q))), (16, .int (nI q)), (15, .int 0), (14, .int (nI (cnN (fun k => dkN p h f t (toN Z) a k) (q + 1)))), (13, .int (nI a)), (12, .ref n1), (11, .int (nI (cnN (fun a => decide (loN p h f t (toN Z) a = 0)) a))), (10, .int (nI (smN (fun a => caN p h f t (toN Z) a) a))), (9, .int (nI (smN (fun a => loN p h f t (toN Z) a) a))), (7, .long dg9), (6, .int x9), (5, .int (nI tm9)), (4, .int (nI (toN Z))), (3, .ref s), (2, .ref t9), (1, .ref (x 0)), (0, .ref (zms Z 3))] (by rw [e14, e19]; rfl) ?_
          exact hk307 w37 hC37

