/-- the law's own end -/
theorem J_end {Z : GZ} {p : Program} {l : Launch} {e : Env} {s : State} {m : MethodId} {below : List Frame} {meth : Method} {c : Code} {b rc rs pc : Nat} {lv : List (Nat × Value)} {ws : va_W} (hx : p.tables.exec = Jvm.exec) (hb : c.code = code) (hr : meth.sig.returnType = ret) (hlocks : meth.locks = false) (hdg : decode code pc = .ok (.ireturn, 1)) : Jd Z (p, l, e, s, m, #[Value.ref b], below, meth, c, fun q => s.heap.size ≤ q) room_1 9 (lw_Z below #[Value.ref b] s) rc rs pc lv [.int 1] ws := by
  intro ls H locs cells slots hc hs hl hP hD hS
  have h1 : room_1.cells = 601024 := rfl
  have h2 : room_1.slots = 7293034 := rfl
  exact va_forget hS.2.2 (W.base (W.widen (k := 601024) (n := 7293034) (by omega) (by omega) (lw_ret (Drawn.sameBut.refl s.drawn lw_cs) hx hb hr hlocks hdg)))
theorem sub6_lt : ∀ L, L < 6 → (nI L - 6 : Int32).toInt < 0 := by decide
theorem lp_go {L i : Nat} (hL : L ≤ 3072) (hi : i ≤ L) (h : ¬ nI L - 6 < nI i) : i + 6 ≤ L := by
  by_cases c : 6 ≤ L
  · have e : nI L - 6 = nI (L - 6) := by
      have e2 : nI L = nI (L - 6) + nI 6 := by rw [nI_add, show L - 6 + 6 = L by omega]
      rw [e2]
      exact Int32.add_sub_cancel _ _
    rw [e] at h
    by_cases d : L - 6 < i
    · exact absurd (nI_lt d (by omega)) h
    · omega
  · exfalso
    apply h
    rw [Int32.lt_iff_toInt_lt, nI_toInt (by omega)]
    have := sub6_lt L (by omega)
    omega
theorem sw_36 (y : Int32) : (y.toInt < 0 ∨ 36 < y.toInt) ∨ ∃ k : Nat, k < 37 ∧ y = nI k := by
  by_cases c : y.toInt < 0 ∨ 36 < y.toInt
  · exact Or.inl c
  · refine Or.inr ?_
    obtain ⟨t, h1, h2⟩ := in_nI (x := y) (m := 36) (by decide) (fun e => c (e.imp (fun z => Int32.lt_iff_toInt_lt.mp z) (fun z => by
      have z2 := Int32.lt_iff_toInt_lt.mp z
      have e2 : (nI 36 : Int32).toInt = 36 := rfl
      omega)))
    exact ⟨t, by omega, h2⟩
set_option maxRecDepth 100000 in
theorem law_sw {Z : GZ} {X : CX} {Q : State → Prop} {rc rs : Nat} (C : Cx Z X cL_law 9 RL) (hV : VN (cS X)) (hl : (cL X).stackTraces = false) {b L i : Nat} {xs : Nat → Int32} (S : Sc X b L xs) (hL : L ≤ 3072) (hi : i + 6 ≤ L) {x mo ou : Nat → Nat} {w : va_W} (hw : LI Z x mo ou w) (next : ∀ w9, LI Z x mo ou w9 → Jd Z X room_1 9 Q rc rs 2021 [(4, .int (nI i)), (0, .ref b), (1, .ref (x 0)), (2, .ref (mo 0)), (3, .ref (ou 0))] [] w9) : Jd Z X room_1 9 Q (rc + 16) (rs + 3000) 40 [(4, .int (nI i)), (0, .ref b), (1, .ref (x 0)), (2, .ref (mo 0)), (3, .ref (ou 0))] [.int (xs i &&& 63)] w := by
  obtain ⟨f, w1, w2, th, N, u, tm, er, dg, co, pP, pH, pF, pT, op, f1, f2, l0, hh, c0, c1, c2, c3, tb, rfl, hC, hM⟩ := hw
  rcases sw_36 (xs i &&& 63) with h | ⟨k, hk, e⟩
  · exact J_tabOut 2021 C iL_law_40 h rfl (J_less rc rs (by omega) (by omega) (next _ ⟨f, w1, w2, th, N, u, tm, er, dg, co, pP, pH, pF, pT, op, f1, f2, l0, hh, c0, c1, c2, c3, tb, rfl, hC, hM⟩))
  · rw [e]
    match k, hk with
    | 0, _ => exact J_tabIn 204 C iL_law_40 (by decide) (by decide) rfl rfl (law_0 C hV hl S hL hi hC hM next)
    | 1, _ => exact J_tabIn 308 C iL_law_40 (by decide) (by decide) rfl rfl (law_1 C hV hl S hL hi hC hM next)
    | 2, _ => exact J_tabIn 364 C iL_law_40 (by decide) (by decide) rfl rfl (law_2 C hV hl S hL hi hC hM next)
    | 3, _ => exact J_tabIn 377 C iL_law_40 (by decide) (by decide) rfl rfl (law_3 C hV hl S hL hi hC hM next)
    | 4, _ => exact J_tabIn 390 C iL_law_40 (by decide) (by decide) rfl rfl (law_4 C hV hl S hL hi hC hM next)
    | 5, _ => exact J_tabIn 403 C iL_law_40 (by decide) (by decide) rfl rfl (law_5 C hV hl S hL hi hC hM next)
    | 6, _ => exact J_tabIn 416 C iL_law_40 (by decide) (by decide) rfl rfl (law_6 C hV hl S hL hi hC hM next)
    | 7, _ => exact J_tabIn 429 C iL_law_40 (by decide) (by decide) rfl rfl (law_7 C hV hl S hL hi hC hM next)
    | 8, _ => exact J_tabIn 442 C iL_law_40 (by decide) (by decide) rfl rfl (law_8 C hV hl S hL hi hC hM next)
    | 9, _ => exact J_tabIn 455 C iL_law_40 (by decide) (by decide) rfl rfl (law_9 C hV hl S hL hi hC hM next)
    | 10, _ => exact J_tabIn 468 C iL_law_40 (by decide) (by decide) rfl rfl (law_10 C hV hl S hL hi hC hM next)
    | 11, _ => exact J_tabIn 512 C iL_law_40 (by decide) (by decide) rfl rfl (law_11 C hV hl S hL hi hC hM next)
    | 12, _ => exact J_tabIn 556 C iL_law_40 (by decide) (by decide) rfl rfl (law_12 C hV hl S hL hi hC hM next)
    | 13, _ => exact J_tabIn 612 C iL_law_40 (by decide) (by decide) rfl rfl (law_13 C hV hl S hL hi hC hM next)
    | 14, _ => exact J_tabIn 668 C iL_law_40 (by decide) (by decide) rfl rfl (law_14 C hV hl S hL hi hC hM next)
    | 15, _ => exact J_tabIn 724 C iL_law_40 (by decide) (by decide) rfl rfl (law_15 C hV hl S hL hi hC hM next)
    | 16, _ => exact J_tabIn 780 C iL_law_40 (by decide) (by decide) rfl rfl (law_16 C hV hl S hL hi hC hM next)
    | 17, _ => exact J_tabIn 843 C iL_law_40 (by decide) (by decide) rfl rfl (law_17 C hV hl S hL hi hC hM next)
    | 18, _ => exact J_tabIn 899 C iL_law_40 (by decide) (by decide) rfl rfl (law_18 C hV hl S hL hi hC hM next)
    | 19, _ => exact J_tabIn 955 C iL_law_40 (by decide) (by decide) rfl rfl (law_19 C hV hl S hL hi hC hM next)
    | 20, _ => exact J_tabIn 1023 C iL_law_40 (by decide) (by decide) rfl rfl (law_20 C hV hl S hL hi hC hM next)
    | 21, _ => exact J_tabIn 1091 C iL_law_40 (by decide) (by decide) rfl rfl (law_21 C hV hl S hL hi hC hM next)
    | 22, _ => exact J_tabIn 1159 C iL_law_40 (by decide) (by decide) rfl rfl (law_22 C hV hl S hL hi hC hM next)
    | 23, _ => exact J_tabIn 1246 C iL_law_40 (by decide) (by decide) rfl rfl (law_23 C hV hl S hL hi hC hM next)
    | 24, _ => exact J_tabIn 1321 C iL_law_40 (by decide) (by decide) rfl rfl (law_24 C hV hl S hL hi hC hM next)
    | 25, _ => exact J_tabIn 1389 C iL_law_40 (by decide) (by decide) rfl rfl (law_25 C hV hl S hL hi hC hM next)
    | 26, _ => exact J_tabIn 1445 C iL_law_40 (by decide) (by decide) rfl rfl (law_26 C hV hl S hL hi hC hM next)
    | 27, _ => exact J_tabIn 1525 C iL_law_40 (by decide) (by decide) rfl rfl (law_27 C hV hl S hL hi hC hM next)
    | 28, _ => exact J_tabIn 1581 C iL_law_40 (by decide) (by decide) rfl rfl (law_28 C hV hl S hL hi hC hM next)
    | 29, _ => exact J_tabIn 1649 C iL_law_40 (by decide) (by decide) rfl rfl (law_29 C hV hl S hL hi hC hM next)
    | 30, _ => exact J_tabIn 1717 C iL_law_40 (by decide) (by decide) rfl rfl (law_30 C hV hl S hL hi hC hM next)
    | 31, _ => exact J_tabIn 1773 C iL_law_40 (by decide) (by decide) rfl rfl (law_31 C hV hl S hL hi hC hM next)
    | 32, _ => exact J_tabIn 1829 C iL_law_40 (by decide) (by decide) rfl rfl (law_32 C hV hl S hL hi hC hM next)
    | 33, _ => exact J_tabIn 1842 C iL_law_40 (by decide) (by decide) rfl rfl (law_33 C hV hl S hL hi hC hM next)
    | 34, _ => exact J_tabIn 1910 C iL_law_40 (by decide) (by decide) rfl rfl (law_34 C hV hl S hL hi hC hM next)
    | 35, _ => exact J_tabIn 1966 C iL_law_40 (by decide) (by decide) rfl rfl (law_35 C hV hl S hL hi hC hM next)
    | 36, _ => exact J_tabIn 2007 C iL_law_40 (by decide) (by decide) rfl rfl (law_36 C hV hl S hL hi hC hM next)
    | z + 37, h9 => exact absurd h9 (by omega)
theorem law_loop {Z : GZ} {X : CX} {Q : State → Prop} (C : Cx Z X cL_law 9 RL) (hV : VN (cS X)) (hl : (cL X).stackTraces = false) {b L : Nat} {xs : Nat → Int32} (S : Sc X b L xs) (hL : L ≤ 3072) {x mo ou : Nat → Nat} (fin : ∀ (rc rs : Nat) (lv : List (Nat × Value)) (w : va_W), Jd Z X room_1 9 Q rc rs 2028 lv [.int 1] w) : ∀ (n i : Nat), L < i + 6 * n + 6 → i ≤ L → ∀ w : va_W, LI Z x mo ou w → Jd Z X room_1 9 Q (16 * n) (3000 * n) 23 [(4, .int (nI i)), (0, .ref b), (1, .ref (x 0)), (2, .ref (mo 0)), (3, .ref (ou 0))] [] w := by
  intro n
  induction n with
  | zero =>
    intro i h1 h2 w hw
    refine J_iload C iL_law_23 rfl ?_
    refine J_aload_n C iL_law_25 rfl rfl ?_
    refine J_slen C S iL_law_26 ?_
    refine J_bipush (6) C iL_law_27 rfl ?_
    refine J_isub C iL_law_29 ?_
    refine J_icmpgt 2027 C iL_law_30 rfl (fun h => ?_) (fun h => ?_)
    · refine J_iconst (1) C iL_law_2027 rfl ?_
      exact fin _ _ _ _
    · exact absurd (lp_go hL h2 h) (by omega)
  | succ n ih =>
    intro i h1 h2 w hw
    rw [show 16 * (n + 1) = 16 * n + 16 by omega, show 3000 * (n + 1) = 3000 * n + 3000 by omega]
    refine J_iload C iL_law_23 rfl ?_
    refine J_aload_n C iL_law_25 rfl rfl ?_
    refine J_slen C S iL_law_26 ?_
    refine J_bipush (6) C iL_law_27 rfl ?_
    refine J_isub C iL_law_29 ?_
    refine J_icmpgt 2027 C iL_law_30 rfl (fun h => ?_) (fun h => ?_)
    · refine J_iconst (1) C iL_law_2027 rfl ?_
      exact fin _ _ _ _
    · have hi := lp_go hL h2 h
      refine J_aload_n C iL_law_33 rfl rfl ?_
      refine J_iload C iL_law_34 rfl ?_
      refine J_sld C S iL_law_36 (vp_in_nI (n := i) (by omega) (by omega)) ?_
      rw [nI_clamp (n := i) (by omega)]
      refine J_bipush (63) C iL_law_37 rfl ?_
      refine J_iand C iL_law_39 ?_
      refine law_sw C hV hl S hL hi hw (fun w9 h9 => ?_)
      refine J_iinc (nI (i + 6)) [(4, .int (nI (i + 6))), (0, .ref b), (1, .ref (x 0)), (2, .ref (mo 0)), (3, .ref (ou 0))] C iL_law_2021 rfl (nI_add i 6) (by decide) rfl ?_
      refine J_goto 23 C iL_law_2024 rfl ?_
      exact ih (i + 6) (by omega) (by omega) w9 h9
theorem df_X8 : ∀ j, j < 8 → defaultValue (tyX8 j) = vp_V [.null, .null, .null, .null, .null, .null, .null, .int 0] j := by
  intro j hj
  match j, hj with
  | 0, _ => rfl
  | 1, _ => rfl
  | 2, _ => rfl
  | 3, _ => rfl
  | 4, _ => rfl
  | 5, _ => rfl
  | 6, _ => rfl
  | 7, _ => rfl
  | z + 8, h9 => exact absurd h9 (by omega)
theorem df_X10 : ∀ j, j < 26 → defaultValue (tyX10 j) = vp_V [.int 0, .null, .int 0, .int 0, .null, .null, .null, .null, .null, .null, .int 0, .int 0, .int 0, .null, .null, .null, .null, .int 0, .int 0, .null, .null, .null, .null, .null, .int 0, .null] j := by
  intro j hj
  match j, hj with
  | 0, _ => rfl
  | 1, _ => rfl
  | 2, _ => rfl
  | 3, _ => rfl
  | 4, _ => rfl
  | 5, _ => rfl
  | 6, _ => rfl
  | 7, _ => rfl
  | 8, _ => rfl
  | 9, _ => rfl
  | 10, _ => rfl
  | 11, _ => rfl
  | 12, _ => rfl
  | 13, _ => rfl
  | 14, _ => rfl
  | 15, _ => rfl
  | 16, _ => rfl
  | 17, _ => rfl
  | 18, _ => rfl
  | 19, _ => rfl
  | 20, _ => rfl
  | 21, _ => rfl
  | 22, _ => rfl
  | 23, _ => rfl
  | 24, _ => rfl
  | 25, _ => rfl
  | z + 26, h9 => exact absurd h9 (by omega)
theorem p3_ {A B C : va_W} : ((A ++ B) ++ C).Perm ((C ++ A) ++ B) := by
  rw [List.append_assoc C A B]
  exact List.perm_append_comm
theorem sg0 {pP pF pT : Nat → Int32} {hh c0 c1 c2 c3 : Nat → Nat} : SgOk 0 0 0 pP pF pT hh c0 c1 c2 c3 := ⟨by omega, by omega, by omega, fun i h => absurd h (by omega), fun i h => absurd h (by omega), fun k h => absurd h (by omega)⟩
theorem la0 {P H F T : Nat → Int32} : (0 : Int32) = laG 0 P H F T := rfl
theorem st0 {pP pH pF pT S D E : Nat → Int32} : StOk 0 pP pH pF pT 0 S D E := ⟨fun i j h => absurd h (by omega), fun i h => absurd h (by omega), fun i h => absurd h (by omega), la0⟩
set_option maxRecDepth 100000 in
set_option maxHeartbeats 4000000 in
theorem law_start {Z : GZ} {X : CX} {Q : State → Prop} (C : Cx Z X cL_law 9 RL) (hV : VN (cS X)) (hl : (cL X).stackTraces = false) {b L : Nat} {xs : Nat → Int32} (S : Sc X b L xs) (hL : L ≤ 3072) (fin : ∀ (rc rs : Nat) (lv : List (Nat × Value)) (w : va_W), Jd Z X room_1 9 Q rc rs 2028 lv [.int 1] w) : Jd Z X room_1 9 Q 601024 7293034 0 [(0, .ref b)] [] [] := by
  refine J_new (rc := 601023) (rs := 7293026) (ci := 7) [.null, .null, .null, .null, .null, .null, .null, .int 0] tyX8 C iL_law_0 rfl lay_X8 tyX8_ok (tsg_in (i := 122) (by decide +kernel) rfl) (tsg_in (i := 123) (by decide +kernel) rfl) (tsg_in (i := 97) (by decide +kernel) rfl) df_X8 (fun q8 => ?_)
  refine J_ws [(q8, .inr (7, [.null, .null, .null, .null, .null, .null, .null, .int 0]))] rfl ?_
  refine J_dup C iL_law_3 rfl ?_
  refine J_cIb (As := []) (st := .ref q8 :: []) (rc2 := 600949) (rs2 := 7286228) (w0 := [(q8, .inr (7, [.null, .null, .null, .null, .null, .null, .null, .int 0]))]) C iL_law_4 lm_L_101 yc_X8_init yi_X8_init c_X8_init [] [] (by simp only [List.append_nil, List.nil_append]) rfl ⟨Nat.le_of_ble_eq_true rfl, Nat.le_of_ble_eq_true rfl⟩ (Nat.le_of_ble_eq_true rfl) rfl rfl ?_
  rintro _ _ ⟨x, t0, b0, p0, h0, r0, a0, e0, kk, L0, Ld, e_x, rfl, rfl⟩
  subst e_x
  refine J_st (.ref (x 0) :: []) rfl ?_
  refine J_ws ((((((((wRg Z x t0 b0 p0 h0 r0 a0 e0 (-1) ++ wSt Z e0 0 0 0 0 (fun _ => 0) (fun _ => 0) (fun _ => 0) (fun _ => 0) (fun _ => 0) (fun _ => 0) (fun _ => 0)) ++ wSt Z a0 0 0 0 0 (fun _ => 0) (fun _ => 0) (fun _ => 0) (fun _ => 0) (fun _ => 0) (fun _ => 0) (fun _ => 0)) ++ wRk Z r0 h0 0 (fun _ => 0)) ++ wBk Z h0 L0 0 0 0 (fun _ => 0) (fun _ => 0) (fun _ => 0) (fun _ => 0) (fun _ => 0) (fun _ => 0) (fun _ => 0) (fun _ => 0) (fun _ => 0) (fun _ => 0) (fun _ => 0) (fun _ => 0)) ++ wBk Z b0 Ld 0 0 0 (fun _ => 0) (fun _ => 0) (fun _ => 0) (fun _ => 0) (fun _ => 0) (fun _ => 0) (fun _ => 0) (fun _ => 0) (fun _ => 0) (fun _ => 0) (fun _ => 0) (fun _ => 0)) ++ wPa Z p0 kk b0 0 0 42 false 0 0 0 0 0 0 0 0) ++ wTk Z kk t0 0 (fun _ => none) (fun _ => 0) (fun _ => 0)) ++ wTp Z t0 0 (fun _ => 0)) (by simp only [List.append_nil, List.nil_append]) ?_
  refine J_astore_n [(1, .ref (x 0)), (0, .ref b)] C iL_law_7 rfl (by decide) rfl ?_
  refine J_new (rc := 600948) (rs := 7286202) (ci := 9) [.int 0, .null, .int 0, .int 0, .null, .null, .null, .null, .null, .null, .int 0, .int 0, .int 0, .null, .null, .null, .null, .int 0, .int 0, .null, .null, .null, .null, .null, .int 0, .null] tyX10 C iL_law_8 rfl lay_X10 tyX10_ok (tsg_in (i := 1185) (by decide +kernel) rfl) (tsg_in (i := 1186) (by decide +kernel) rfl) (tsg_in (i := 107) (by decide +kernel) rfl) df_X10 (fun q10 => ?_)
  refine J_dup C iL_law_11 rfl ?_
  refine J_cIb (As := []) (st := .ref q10 :: []) (rc2 := 600921) (rs2 := 7278580) (w0 := [(q10, .inr (9, [.int 0, .null, .int 0, .int 0, .null, .null, .null, .null, .null, .null, .int 0, .int 0, .int 0, .null, .null, .null, .null, .int 0, .int 0, .null, .null, .null, .null, .null, .int 0, .null]))]) C iL_law_12 lm_L_104 yc_X10_init yi_X10_init c_X10_init ((((((((wRg Z x t0 b0 p0 h0 r0 a0 e0 (-1) ++ wSt Z e0 0 0 0 0 (fun _ => 0) (fun _ => 0) (fun _ => 0) (fun _ => 0) (fun _ => 0) (fun _ => 0) (fun _ => 0)) ++ wSt Z a0 0 0 0 0 (fun _ => 0) (fun _ => 0) (fun _ => 0) (fun _ => 0) (fun _ => 0) (fun _ => 0) (fun _ => 0)) ++ wRk Z r0 h0 0 (fun _ => 0)) ++ wBk Z h0 L0 0 0 0 (fun _ => 0) (fun _ => 0) (fun _ => 0) (fun _ => 0) (fun _ => 0) (fun _ => 0) (fun _ => 0) (fun _ => 0) (fun _ => 0) (fun _ => 0) (fun _ => 0) (fun _ => 0)) ++ wBk Z b0 Ld 0 0 0 (fun _ => 0) (fun _ => 0) (fun _ => 0) (fun _ => 0) (fun _ => 0) (fun _ => 0) (fun _ => 0) (fun _ => 0) (fun _ => 0) (fun _ => 0) (fun _ => 0) (fun _ => 0)) ++ wPa Z p0 kk b0 0 0 42 false 0 0 0 0 0 0 0 0) ++ wTk Z kk t0 0 (fun _ => none) (fun _ => 0) (fun _ => 0)) ++ wTp Z t0 0 (fun _ => 0)) [] (by simp only [List.append_nil]) rfl ⟨Nat.le_of_ble_eq_true rfl, Nat.le_of_ble_eq_true rfl⟩ (Nat.le_of_ble_eq_true rfl) rfl rfl ?_
  rintro _ _ ⟨mo, pl, e_mo, rfl, rfl⟩
  subst e_mo
  refine J_st (.ref (mo 0) :: []) rfl ?_
  refine J_ws (((((((((wRg Z x t0 b0 p0 h0 r0 a0 e0 (-1) ++ wSt Z e0 0 0 0 0 (fun _ => 0) (fun _ => 0) (fun _ => 0) (fun _ => 0) (fun _ => 0) (fun _ => 0) (fun _ => 0)) ++ wSt Z a0 0 0 0 0 (fun _ => 0) (fun _ => 0) (fun _ => 0) (fun _ => 0) (fun _ => 0) (fun _ => 0) (fun _ => 0)) ++ wRk Z r0 h0 0 (fun _ => 0)) ++ wBk Z h0 L0 0 0 0 (fun _ => 0) (fun _ => 0) (fun _ => 0) (fun _ => 0) (fun _ => 0) (fun _ => 0) (fun _ => 0) (fun _ => 0) (fun _ => 0) (fun _ => 0) (fun _ => 0) (fun _ => 0)) ++ wBk Z b0 Ld 0 0 0 (fun _ => 0) (fun _ => 0) (fun _ => 0) (fun _ => 0) (fun _ => 0) (fun _ => 0) (fun _ => 0) (fun _ => 0) (fun _ => 0) (fun _ => 0) (fun _ => 0) (fun _ => 0)) ++ wPa Z p0 kk b0 0 0 42 false 0 0 0 0 0 0 0 0) ++ wTk Z kk t0 0 (fun _ => none) (fun _ => 0) (fun _ => 0)) ++ wTp Z t0 0 (fun _ => 0)) ++ (wMd Z mo pl 0 0 (-1) 0 0 0 0 0 false (fun _ => 0) (fun _ => 0) (fun _ => 0) (fun _ => 0) (fun _ => 0) (fun _ => 0) (fun _ => 0) (fun _ => 0) (fun _ => 0) (fun _ => 0) (fun _ => 0) (fun _ => 0) (fun _ => 0) (fun _ => 0) (fun _ => 0) (fun _ => 0) ++ wPl Z pl 0 0 0 (fun _ => 0) (fun _ => 0) (fun _ => 0) (fun _ => 0) (fun _ => 0) (fun _ => 0) (fun _ => 0) (fun _ => 0) (fun _ => 0) (fun _ => 0))) (by simp only [List.append_nil]) ?_
  refine J_astore_n [(2, .ref (mo 0)), (1, .ref (x 0)), (0, .ref b)] C iL_law_15 rfl (by decide) rfl ?_
  refine J_iconst (1) C iL_law_16 rfl ?_
  refine J_newL (rc := 600920) (rs := 7278579) 1 C iL_law_17 (tsg_in (i := 190) (by decide +kernel) rfl) (by decide) rfl (by decide) (fun n1 => ?_)
  refine J_ws ((((((((((wRg Z x t0 b0 p0 h0 r0 a0 e0 (-1) ++ wSt Z e0 0 0 0 0 (fun _ => 0) (fun _ => 0) (fun _ => 0) (fun _ => 0) (fun _ => 0) (fun _ => 0) (fun _ => 0)) ++ wSt Z a0 0 0 0 0 (fun _ => 0) (fun _ => 0) (fun _ => 0) (fun _ => 0) (fun _ => 0) (fun _ => 0) (fun _ => 0)) ++ wRk Z r0 h0 0 (fun _ => 0)) ++ wBk Z h0 L0 0 0 0 (fun _ => 0) (fun _ => 0) (fun _ => 0) (fun _ => 0) (fun _ => 0) (fun _ => 0) (fun _ => 0) (fun _ => 0) (fun _ => 0) (fun _ => 0) (fun _ => 0) (fun _ => 0)) ++ wBk Z b0 Ld 0 0 0 (fun _ => 0) (fun _ => 0) (fun _ => 0) (fun _ => 0) (fun _ => 0) (fun _ => 0) (fun _ => 0) (fun _ => 0) (fun _ => 0) (fun _ => 0) (fun _ => 0) (fun _ => 0)) ++ wPa Z p0 kk b0 0 0 42 false 0 0 0 0 0 0 0 0) ++ wTk Z kk t0 0 (fun _ => none) (fun _ => 0) (fun _ => 0)) ++ wTp Z t0 0 (fun _ => 0)) ++ (wMd Z mo pl 0 0 (-1) 0 0 0 0 0 false (fun _ => 0) (fun _ => 0) (fun _ => 0) (fun _ => 0) (fun _ => 0) (fun _ => 0) (fun _ => 0) (fun _ => 0) (fun _ => 0) (fun _ => 0) (fun _ => 0) (fun _ => 0) (fun _ => 0) (fun _ => 0) (fun _ => 0) (fun _ => 0) ++ wPl Z pl 0 0 0 (fun _ => 0) (fun _ => 0) (fun _ => 0) (fun _ => 0) (fun _ => 0) (fun _ => 0) (fun _ => 0) (fun _ => 0) (fun _ => 0) (fun _ => 0))) ++ wOu Z (fun _ => n1) (fun _ => 0)) rfl ?_
  refine J_perm ((wOu Z (fun _ => n1) (fun _ => 0) ++ ((((((((wRg Z x t0 b0 p0 h0 r0 a0 e0 (-1) ++ wSt Z e0 0 0 0 0 (fun _ => 0) (fun _ => 0) (fun _ => 0) (fun _ => 0) (fun _ => 0) (fun _ => 0) (fun _ => 0)) ++ wSt Z a0 0 0 0 0 (fun _ => 0) (fun _ => 0) (fun _ => 0) (fun _ => 0) (fun _ => 0) (fun _ => 0) (fun _ => 0)) ++ wRk Z r0 h0 0 (fun _ => 0)) ++ wBk Z h0 L0 0 0 0 (fun _ => 0) (fun _ => 0) (fun _ => 0) (fun _ => 0) (fun _ => 0) (fun _ => 0) (fun _ => 0) (fun _ => 0) (fun _ => 0) (fun _ => 0) (fun _ => 0) (fun _ => 0)) ++ wBk Z b0 Ld 0 0 0 (fun _ => 0) (fun _ => 0) (fun _ => 0) (fun _ => 0) (fun _ => 0) (fun _ => 0) (fun _ => 0) (fun _ => 0) (fun _ => 0) (fun _ => 0) (fun _ => 0) (fun _ => 0)) ++ wPa Z p0 kk b0 0 0 42 false 0 0 0 0 0 0 0 0) ++ wTk Z kk t0 0 (fun _ => none) (fun _ => 0) (fun _ => 0)) ++ wTp Z t0 0 (fun _ => 0))) ++ (wMd Z mo pl 0 0 (-1) 0 0 0 0 0 false (fun _ => 0) (fun _ => 0) (fun _ => 0) (fun _ => 0) (fun _ => 0) (fun _ => 0) (fun _ => 0) (fun _ => 0) (fun _ => 0) (fun _ => 0) (fun _ => 0) (fun _ => 0) (fun _ => 0) (fun _ => 0) (fun _ => 0) (fun _ => 0) ++ wPl Z pl 0 0 0 (fun _ => 0) (fun _ => 0) (fun _ => 0) (fun _ => 0) (fun _ => 0) (fun _ => 0) (fun _ => 0) (fun _ => 0) (fun _ => 0) (fun _ => 0))) p3_ ?_
  refine J_astore_n [(3, .ref n1), (2, .ref (mo 0)), (1, .ref (x 0)), (0, .ref b)] C iL_law_19 rfl (by decide) rfl ?_
  refine J_iconst (0) C iL_law_20 rfl ?_
  refine J_istore [(4, .int 0), (3, .ref n1), (2, .ref (mo 0)), (1, .ref (x 0)), (0, .ref b)] C iL_law_21 (by decide) rfl ?_
  refine J_lvm [(4, .int (nI 0)), (0, .ref b), (1, .ref (x 0)), (2, .ref (mo 0)), (3, .ref ((fun _ => n1) 0))] rfl ?_
  refine J_less (16 * 513) (3000 * 513) (by omega) (by omega) ?_
  refine law_loop C hV hl S hL (ou := fun _ => n1) fin 513 0 (by omega) (by omega) _ ?_
  refine ⟨fun _ => 0, ((((((((wRg Z x t0 b0 p0 h0 r0 a0 e0 (-1) ++ wSt Z e0 0 0 0 0 (fun _ => 0) (fun _ => 0) (fun _ => 0) (fun _ => 0) (fun _ => 0) (fun _ => 0) (fun _ => 0)) ++ wSt Z a0 0 0 0 0 (fun _ => 0) (fun _ => 0) (fun _ => 0) (fun _ => 0) (fun _ => 0) (fun _ => 0) (fun _ => 0)) ++ wRk Z r0 h0 0 (fun _ => 0)) ++ wBk Z h0 L0 0 0 0 (fun _ => 0) (fun _ => 0) (fun _ => 0) (fun _ => 0) (fun _ => 0) (fun _ => 0) (fun _ => 0) (fun _ => 0) (fun _ => 0) (fun _ => 0) (fun _ => 0) (fun _ => 0)) ++ wBk Z b0 Ld 0 0 0 (fun _ => 0) (fun _ => 0) (fun _ => 0) (fun _ => 0) (fun _ => 0) (fun _ => 0) (fun _ => 0) (fun _ => 0) (fun _ => 0) (fun _ => 0) (fun _ => 0) (fun _ => 0)) ++ wPa Z p0 kk b0 0 0 42 false 0 0 0 0 0 0 0 0) ++ wTk Z kk t0 0 (fun _ => none) (fun _ => 0) (fun _ => 0)) ++ wTp Z t0 0 (fun _ => 0)), (wMd Z mo pl 0 0 (-1) 0 0 0 0 0 false (fun _ => 0) (fun _ => 0) (fun _ => 0) (fun _ => 0) (fun _ => 0) (fun _ => 0) (fun _ => 0) (fun _ => 0) (fun _ => 0) (fun _ => 0) (fun _ => 0) (fun _ => 0) (fun _ => 0) (fun _ => 0) (fun _ => 0) (fun _ => 0) ++ wPl Z pl 0 0 0 (fun _ => 0) (fun _ => 0) (fun _ => 0) (fun _ => 0) (fun _ => 0) (fun _ => 0) (fun _ => 0) (fun _ => 0) (fun _ => 0) (fun _ => 0)), 0, 0, 0, 0, (-1), 0, 0, fun _ => 0, fun _ => 0, fun _ => 0, fun _ => 0, fun _ => 0, fun _ => 0, fun _ => 0, fun _ => 0, fun _ => 0, fun _ => 0, fun _ => 0, fun _ => 0, fun _ => 0, fun _ => 0, rfl, CI.mk t0 b0 p0 h0 r0 a0 e0 kk L0 Ld _ _ _ _ _ _ _ _ _ _ _ _ _ _ _ _ _ _ _ _ _ _ _ _ _ _ _ _ _ _ _ _ _ _ _ _ _ _ _ _ _ _ _ _ _ _ _ _ _ _ _ _ _ _ _ _ _ sg0 rfl st0 (fun k h => absurd h (by omega)), MI.mk pl _ _ _ _ _ _ _ _ _ _ _ _ _ _ _ _ _ _ _ _ _ _ _ _ _ _ _ 0 sg0 rfl (fun h => absurd h (by decide)) (by omega) (fun r h => absurd h (by omega)) (fun k h => absurd h (by omega)) (fun q h => absurd h (by omega))⟩
