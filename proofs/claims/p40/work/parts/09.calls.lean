theorem pc_blind {Z : GZ} {av : List Value} {w0 : va_W} {sz : Nat} : FrameBlind (va_Pc av (fun U => U.heap.size = sz ∧ va_P Z.1 vwCl w0 U.heap ∧ KW Z U ∧ va_D (fun _ => True) w0 ∧ SF Z (va_A w0 sz) U U.heap)) := by
  rintro a U g mk ⟨h0, h1, h2, h3, h4, h5⟩
  exact ⟨h0, h1, h2, KW.same (u := U) (U := U.calling g mk a) rfl h3, h4, SF.moved (u := U) (U := U.calling g mk a) (Vm.Alike.refl U.vm) h5⟩
theorem pc_pre {Z : GZ} {X : CX} {cc : ByteArray} {nL : Nat} {own : String} (C : Cx Z X cc nL own) {ws w0 : va_W} {H : Heap} {locs : List Loc} (hP : va_P Z.1 vwCl ws H) (hD : va_D (cF X) ws) (hS : va_S (cF X) (cS X).heap H locs) {isC : List Nat} (hC : isC.map (fun i => ws[i]?) = w0.map some) (hnd : va_nd isC = true) (av : List Value) :
    ∀ U : State, U.heap = H → (cS X).WarmedH U.vm → va_Pc av (fun U => U.heap.size = H.size ∧ va_P Z.1 vwCl w0 U.heap ∧ KW Z U ∧ va_D (fun _ => True) w0 ∧ SF Z (va_A w0 H.size) U U.heap) av.toArray U := by
  intro U hU hW
  have hF := va_free hD hS C.2.2.2.2.2.2.2 isC hC
  exact ⟨rfl, by rw [hU], by rw [hU]; exact hP.sub isC (fm_of hC), C.2.2.2.2.2.1.warm hW, (hD.sub isC hnd hC).weaken (fun _ _ _ _ => trivial), by rw [hU]; exact ((C.2.2.2.2.2.2.1.kept hS.2.1).moved hW.alike).narrow hF⟩
theorem J_objInit {Z : GZ} {X : CX} {R : Room} {nL : Nat} {Q : State → Prop} {rc rs pc nx : Nat} {lv : List (Nat × Value)} {st : List Value} {ws : va_W} {cc : ByteArray} {own : String} {idx a : Nat} (C : Cx Z X cc nL own) (d : dI cc pc (.invokespecial idx) 3 nx) (hw : Cond.methodLink own idx objectInit ∈ TSg) (hw2 : Cond.instanceMethod objectInit ∈ TSg) (hw3 : Cond.code objectInit ⟨#[0xb1]⟩ 1 none ∈ TSg) (hf : 1 ≤ R.frames) (hlo : (st.map fun v => v.category).sum + 12 ≤ R.locals) (k : Jd Z X R nL Q rc rs nx lv (st) ws) : Jd Z X R nL Q rc rs pc lv (.ref a :: st) ws := by
  obtain ⟨d, rfl⟩ := d
  intro ls H locs cells slots hc hs hl hP hD hS
  exact W.objInit C.1 C.2.1 C.2.2.2.1 (C.2.2.2.2.1 _ hw) (C.2.2.2.2.1 _ hw2) (C.2.2.2.2.1 _ hw3) rfl (hl.1.trans C.2.2.1.symm) rfl d hf (by show 2 * 0 + _ + 12 ≤ _; omega) (k ls H locs cells slots hc hs hl hP hD hS)
theorem J_abs {Z : GZ} {X : CX} {R : Room} {nL : Nat} {Q : State → Prop} {rc rs pc nx : Nat} {lv : List (Nat × Value)} {st : List Value} {ws : va_W} {cc : ByteArray} {own : String} {idx : Nat} {x : Int32} (C : Cx Z X cc nL own) (d : dI cc pc (.invokestatic idx) 3 nx) (hw : Cond.methodLink own idx Lib.Math.abs.name ∈ TSg) (hw2 : Cond.static Lib.Math.abs.name ∈ TSg) (hw3 : Cond.initialized "java/lang/Math" ∈ TSg) (hw4 : Cond.code Lib.Math.abs.name Lib.Math.abs.code 1 (some .int) ∈ TSg) (hf : 1 ≤ R.frames) (hlo : (st.map fun v => v.category).sum + 13 ≤ R.locals) (k : Jd Z X R nL Q rc rs nx lv (.int (if 0 ≤ x then x else 0 - x) :: st) ws) : Jd Z X R nL Q rc rs pc lv (.int x :: st) ws := by
  obtain ⟨d, rfl⟩ := d
  intro ls H locs cells slots hc hs hl hP hD hS
  exact va_mabs C.1 C.2.1 (C.2.2.1.trans hl.1.symm) C.2.2.2.1 (C.2.2.2.2.1 _ hw) (C.2.2.2.2.1 _ hw2) (C.2.2.2.2.1 _ hw3) (C.2.2.2.2.1 _ hw4) hf hlo (by omega) (by omega) d (k ls H locs cells slots hc hs hl hP hD hS)
theorem J_imax {Z : GZ} {X : CX} {R : Room} {nL : Nat} {Q : State → Prop} {rc rs pc nx : Nat} {lv : List (Nat × Value)} {st : List Value} {ws : va_W} {cc : ByteArray} {own : String} {idx : Nat} {x y : Int32} (C : Cx Z X cc nL own) (d : dI cc pc (.invokestatic idx) 3 nx) (hw : Cond.methodLink own idx Lib.Math.max.name ∈ TSg) (hw2 : Cond.static Lib.Math.max.name ∈ TSg) (hw3 : Cond.initialized "java/lang/Math" ∈ TSg) (hw4 : Cond.code Lib.Math.max.name Lib.Math.max.code 2 (some .int) ∈ TSg) (hf : 1 ≤ R.frames) (hlo : (st.map fun v => v.category).sum + 13 ≤ R.locals) (k : Jd Z X R nL Q rc rs nx lv (.int (if x < y then y else x) :: st) ws) : Jd Z X R nL Q rc rs pc lv (.int y :: .int x :: st) ws := by
  obtain ⟨d, rfl⟩ := d
  intro ls H locs cells slots hc hs hl hP hD hS
  exact va_mmax C.1 C.2.1 (C.2.2.1.trans hl.1.symm) C.2.2.2.1 (C.2.2.2.2.1 _ hw) (C.2.2.2.2.1 _ hw2) (C.2.2.2.2.1 _ hw3) (C.2.2.2.2.1 _ hw4) hf hlo (by omega) (by omega) d (k ls H locs cells slots hc hs hl hP hD hS)
theorem J_imin {Z : GZ} {X : CX} {R : Room} {nL : Nat} {Q : State → Prop} {rc rs pc nx : Nat} {lv : List (Nat × Value)} {st : List Value} {ws : va_W} {cc : ByteArray} {own : String} {idx : Nat} {x y : Int32} (C : Cx Z X cc nL own) (d : dI cc pc (.invokestatic idx) 3 nx) (hw : Cond.methodLink own idx Lib.Math.min.name ∈ TSg) (hw2 : Cond.static Lib.Math.min.name ∈ TSg) (hw3 : Cond.initialized "java/lang/Math" ∈ TSg) (hw4 : Cond.code Lib.Math.min.name Lib.Math.min.code 2 (some .int) ∈ TSg) (hf : 1 ≤ R.frames) (hlo : (st.map fun v => v.category).sum + 13 ≤ R.locals) (k : Jd Z X R nL Q rc rs nx lv (.int (if y < x then y else x) :: st) ws) : Jd Z X R nL Q rc rs pc lv (.int y :: .int x :: st) ws := by
  obtain ⟨d, rfl⟩ := d
  intro ls H locs cells slots hc hs hl hP hD hS
  exact va_mmin C.1 C.2.1 (C.2.2.1.trans hl.1.symm) C.2.2.2.1 (C.2.2.2.2.1 _ hw) (C.2.2.2.2.1 _ hw2) (C.2.2.2.2.1 _ hw3) (C.2.2.2.2.1 _ hw4) hf hlo (by omega) (by omega) d (k ls H locs cells slots hc hs hl hP hD hS)
theorem J_lmax {Z : GZ} {X : CX} {R : Room} {nL : Nat} {Q : State → Prop} {rc rs pc nx : Nat} {lv : List (Nat × Value)} {st : List Value} {ws : va_W} {cc : ByteArray} {own : String} {idx : Nat} {x y : Int64} (C : Cx Z X cc nL own) (d : dI cc pc (.invokestatic idx) 3 nx) (hw : Cond.methodLink own idx Lib.MathLoose.max_long.x ∈ TSg) (hw2 : Cond.static Lib.MathLoose.max_long.x ∈ TSg) (hw3 : Cond.initialized "java/lang/Math" ∈ TSg) (hw4 : Cond.code Lib.MathLoose.max_long.x Lib.MathLoose.max_long.code 4 (some .long) ∈ TSg) (hf : 1 ≤ R.frames) (hlo : (st.map fun v => v.category).sum + 15 ≤ R.locals) (k : Jd Z X R nL Q rc rs nx lv (.long (if y < x then x else y) :: st) ws) : Jd Z X R nL Q rc rs pc lv (.long y :: .long x :: st) ws := by
  obtain ⟨d, rfl⟩ := d
  intro ls H locs cells slots hc hs hl hP hD hS
  exact va_mmax_long C.1 C.2.1 (C.2.2.1.trans hl.1.symm) C.2.2.2.1 (C.2.2.2.2.1 _ hw) (C.2.2.2.2.1 _ hw2) (C.2.2.2.2.1 _ hw3) (C.2.2.2.2.1 _ hw4) hf hlo (by omega) (by omega) d (k ls H locs cells slots hc hs hl hP hD hS)
theorem J_lmin {Z : GZ} {X : CX} {R : Room} {nL : Nat} {Q : State → Prop} {rc rs pc nx : Nat} {lv : List (Nat × Value)} {st : List Value} {ws : va_W} {cc : ByteArray} {own : String} {idx : Nat} {x y : Int64} (C : Cx Z X cc nL own) (d : dI cc pc (.invokestatic idx) 3 nx) (hw : Cond.methodLink own idx Lib.MathLoose.min_long.x ∈ TSg) (hw2 : Cond.static Lib.MathLoose.min_long.x ∈ TSg) (hw3 : Cond.initialized "java/lang/Math" ∈ TSg) (hw4 : Cond.code Lib.MathLoose.min_long.x Lib.MathLoose.min_long.code 4 (some .long) ∈ TSg) (hf : 1 ≤ R.frames) (hlo : (st.map fun v => v.category).sum + 15 ≤ R.locals) (k : Jd Z X R nL Q rc rs nx lv (.long (if y < x then y else x) :: st) ws) : Jd Z X R nL Q rc rs pc lv (.long y :: .long x :: st) ws := by
  obtain ⟨d, rfl⟩ := d
  intro ls H locs cells slots hc hs hl hP hD hS
  exact va_mmin_long C.1 C.2.1 (C.2.2.1.trans hl.1.symm) C.2.2.2.1 (C.2.2.2.2.1 _ hw) (C.2.2.2.2.1 _ hw2) (C.2.2.2.2.1 _ hw3) (C.2.2.2.2.1 _ hw4) hf hlo (by omega) (by omega) d (k ls H locs cells slots hc hs hl hP hD hS)
theorem J_copy {Z : GZ} {X : CX} {R : Room} {nL : Nat} {Q : State → Prop} {rc rs pc nx : Nat} {lv : List (Nat × Value)} {st : List Value} {ws : va_W} {cc : ByteArray} {own : String} {idx a0 a n0 n1 : Nat} {f g : Nat → Int32} {sp dp n : Int32} (ws2 : va_W) (q0 q1 : Nat) (C : Cx Z X cc nL own) (d : dI cc pc (.invokestatic idx) 3 nx) (hw : Cond.methodLink own idx arraycopyName ∈ TSg) (hw2 : Cond.native arraycopyName ∈ TSg) (hw3 : Cond.static arraycopyName ∈ TSg) (hw4 : Cond.initialized "java/lang/System" ∈ TSg) (ha0 : ws[q0]? = some (a0, .inl (zA Z 0, n0, .inl f))) (ha1 : ws[q1]? = some (a, .inl (zA Z 0, n1, .inl g)))
    (h1 : ¬ sp < 0) (h2 : ¬ dp < 0) (h3 : ¬ n < 0) (h4 : sp.toNatClampNeg + n.toNatClampNeg ≤ n0) (h5 : dp.toNatClampNeg + n.toNatClampNeg ≤ n1) (hf : 1 ≤ R.frames) (hlo : (st.map fun v => v.category).sum + 18 ≤ R.locals)
    (hw5 : ws.set q1 (a, .inl (zA Z 0, n1, .inl (va_cpy f g sp.toNatClampNeg dp.toNatClampNeg n.toNatClampNeg))) = ws2) (k9 : Jd Z X R nL Q rc rs nx lv (st) ws2) : Jd Z X R nL Q rc rs pc lv (.int n :: .int dp :: .ref a :: .int sp :: .ref a0 :: st) ws := by
  obtain ⟨d, rfl⟩ := d
  subst hw5
  intro ls H locs cells slots hc hs hl hP hD hS
  exact va_copyi C.1 C.2.1 (C.2.2.1.trans hl.1.symm) C.2.2.2.1 (C.2.2.2.2.1 _ hw) (C.2.2.2.2.1 _ hw2) (C.2.2.2.2.1 _ hw3) (C.2.2.2.2.1 _ hw4) C.2.2.2.2.2.1.1 hP hD hS q0 q1 0 0 ha0 ha1 rfl rfl rfl h1 h2 h3 h4 h5 (fun _ _ => rfl) hf (by show _ + (7 + 11) ≤ _; omega) d (fun H1 locs1 hP1 hD1 hS1 => k9 ls H1 locs1 cells slots hc hs hl hP1 hD1 hS1)
theorem J_new {Z : GZ} {X : CX} {R : Room} {nL : Nat} {Q : State → Prop} {rc rs pc nx : Nat} {lv : List (Nat × Value)} {st : List Value} {ws : va_W} {cc : ByteArray} {own : String} {idx ci N : Nat} {C0 : String} {T : u_T} (fs : List Value) (ty : Nat → FieldType) (C : Cx Z X cc nL own) (d : dI cc pc (.new idx) 3 nx) (hcl : vwCl[ci]? = some (C0, T, N)) (hin : ∀ w ∈ u_ws C0 T N, w ∈ TSg) (hty : ∀ k, k < N → parseFieldDescriptor (T k).2.2.1 = some (ty k)) (hw : Cond.classLink own idx C0 ∈ TSg) (hw2 : Cond.instantiable C0 N ∈ TSg) (hw3 : Cond.initialized C0 ∈ TSg) (hfs : ∀ j, j < N → defaultValue (ty j) = vp_V fs j)
    (k9 : ∀ q : Nat, Jd Z X R nL Q rc rs nx lv (.ref q :: st) (ws ++ [(q, .inr (ci, fs))])) : Jd Z X R nL Q (1 + rc) (N + rs) pc lv (st) ws := by
  obtain ⟨d, rfl⟩ := d
  intro ls H locs cells slots hc hs hl hP hD hS
  exact va_new C.1 C.2.1 C.2.2.2.2.1 hin ty hty C.2.2.2.1 (C.2.2.2.2.1 _ hw) (C.2.2.2.2.1 _ hw2) (C.2.2.2.2.1 _ hw3) C.2.2.2.2.2.1.1 hP hD hS C.2.2.2.2.2.2.2 hcl hfs (by omega) (by omega) d (fun q H1 hP1 hD1 hS1 => k9 q ls H1 locs (cells + 1) (slots + N) (by omega) (by omega) hl hP1 hD1 hS1)
theorem tys_same {Z : GZ} {U : State} {ty : FieldType} {c c2 : ClassId} (h1 : va_RA U c ty) (h2 : va_RA U c2 ty) : c = c2 := by
  cases ty with
  | object C0 =>
    obtain ⟨_, _, _, _, _, e1⟩ := h1
    obtain ⟨_, _, _, _, _, e2⟩ := h2
    exact Option.some.inj (e1.symm.trans e2)
  | _ => exact Option.some.inj ((show U.vm.findClass _ = some c from h1).symm.trans (show U.vm.findClass _ = some c2 from h2))
theorem J_newI {Z : GZ} {X : CX} {R : Room} {nL : Nat} {Q : State → Prop} {rc rs pc nx : Nat} {lv : List (Nat × Value)} {st : List Value} {ws : va_W} {cc : ByteArray} {own : String} {n : Int32} (N0 : Nat) (C : Cx Z X cc nL own) (d : dI cc pc (.newarray .int) 2 nx) (hw : Cond.arrayClass .int ∈ TSg) (hn : ¬ n < 0) (hN : n.toNatClampNeg = N0) (hb : N0 * 4 ≤ 536870912)
    (k9 : ∀ q : Nat, Jd Z X R nL Q rc rs nx lv (.ref q :: st) (ws ++ [(q, .inl (zA Z 0, N0, .inl (fun _ => 0)))])) : Jd Z X R nL Q (1 + rc) (N0 + rs) pc lv (.int n :: st) ws := by
  obtain ⟨d, rfl⟩ := d
  intro ls H locs cells slots hc hs hl hP hD hS
  refine va_newa (atype := .int) (ty := .int) (a0 := (N0, .inl (fun _ => 0))) C.1 C.2.1 (C.2.2.2.2.1 _ hw) rfl C.2.2.2.2.2.1.1 hP hD hS C.2.2.2.2.2.2.2 (fun _ => rfl) hn hN hb (by omega) (by omega) d (fun q c2 H1 hK1 hP1 hD1 hS1 => ?_)
  have e : zA Z 0 = c2 := tys_same (Z := Z) (C.2.2.2.2.2.1.1.2 0 _ rfl).2 (hK1.2 9 (c2, .int) rfl).2
  subst e
  exact k9 q ls H1 locs (cells + 1) (slots + N0) (by omega) (by omega) hl hP1 hD1 hS1
theorem J_newL {Z : GZ} {X : CX} {R : Room} {nL : Nat} {Q : State → Prop} {rc rs pc nx : Nat} {lv : List (Nat × Value)} {st : List Value} {ws : va_W} {cc : ByteArray} {own : String} {n : Int32} (N0 : Nat) (C : Cx Z X cc nL own) (d : dI cc pc (.newarray .long) 2 nx) (hw : Cond.arrayClass .long ∈ TSg) (hn : ¬ n < 0) (hN : n.toNatClampNeg = N0) (hb : N0 * 8 ≤ 536870912)
    (k9 : ∀ q : Nat, Jd Z X R nL Q rc rs nx lv (.ref q :: st) (ws ++ [(q, .inl (zA Z 1, N0, .inr (.inl (fun _ => 0))))])) : Jd Z X R nL Q (1 + rc) (N0 + rs) pc lv (.int n :: st) ws := by
  obtain ⟨d, rfl⟩ := d
  intro ls H locs cells slots hc hs hl hP hD hS
  refine va_newa (atype := .long) (ty := .long) (a0 := (N0, .inr (.inl (fun _ => 0)))) C.1 C.2.1 (C.2.2.2.2.1 _ hw) rfl C.2.2.2.2.2.1.1 hP hD hS C.2.2.2.2.2.2.2 (fun _ => rfl) hn hN hb (by omega) (by omega) d (fun q c2 H1 hK1 hP1 hD1 hS1 => ?_)
  have e : zA Z 1 = c2 := tys_same (Z := Z) (C.2.2.2.2.2.1.1.2 1 _ rfl).2 (hK1.2 9 (c2, .long) rfl).2
  subst e
  exact k9 q ls H1 locs (cells + 1) (slots + N0) (by omega) (by omega) hl hP1 hD1 hS1
theorem J_newB {Z : GZ} {X : CX} {R : Room} {nL : Nat} {Q : State → Prop} {rc rs pc nx : Nat} {lv : List (Nat × Value)} {st : List Value} {ws : va_W} {cc : ByteArray} {own : String} {n : Int32} (N0 : Nat) (C : Cx Z X cc nL own) (d : dI cc pc (.newarray .byte) 2 nx) (hw : Cond.arrayClass .byte ∈ TSg) (hn : ¬ n < 0) (hN : n.toNatClampNeg = N0) (hb : N0 * 1 ≤ 536870912)
    (k9 : ∀ q : Nat, Jd Z X R nL Q rc rs nx lv (.ref q :: st) (ws ++ [(q, .inl (zA Z 2, N0, .inl (fun _ => 0)))])) : Jd Z X R nL Q (1 + rc) (N0 + rs) pc lv (.int n :: st) ws := by
  obtain ⟨d, rfl⟩ := d
  intro ls H locs cells slots hc hs hl hP hD hS
  refine va_newa (atype := .byte) (ty := .byte) (a0 := (N0, .inl (fun _ => 0))) C.1 C.2.1 (C.2.2.2.2.1 _ hw) rfl C.2.2.2.2.2.1.1 hP hD hS C.2.2.2.2.2.2.2 (fun _ => rfl) hn hN hb (by omega) (by omega) d (fun q c2 H1 hK1 hP1 hD1 hS1 => ?_)
  have e : zA Z 2 = c2 := tys_same (Z := Z) (C.2.2.2.2.2.1.1.2 2 _ rfl).2 (hK1.2 9 (c2, .byte) rfl).2
  subst e
  exact k9 q ls H1 locs (cells + 1) (slots + N0) (by omega) (by omega) hl hP1 hD1 hS1
theorem J_newZ {Z : GZ} {X : CX} {R : Room} {nL : Nat} {Q : State → Prop} {rc rs pc nx : Nat} {lv : List (Nat × Value)} {st : List Value} {ws : va_W} {cc : ByteArray} {own : String} {n : Int32} (N0 : Nat) (C : Cx Z X cc nL own) (d : dI cc pc (.newarray .boolean) 2 nx) (hw : Cond.arrayClass .boolean ∈ TSg) (hn : ¬ n < 0) (hN : n.toNatClampNeg = N0) (hb : N0 * 1 ≤ 536870912)
    (k9 : ∀ q : Nat, Jd Z X R nL Q rc rs nx lv (.ref q :: st) (ws ++ [(q, .inl (zA Z 8, N0, .inl (fun _ => 0)))])) : Jd Z X R nL Q (1 + rc) (N0 + rs) pc lv (.int n :: st) ws := by
  obtain ⟨d, rfl⟩ := d
  intro ls H locs cells slots hc hs hl hP hD hS
  refine va_newa (atype := .boolean) (ty := .boolean) (a0 := (N0, .inl (fun _ => 0))) C.1 C.2.1 (C.2.2.2.2.1 _ hw) rfl C.2.2.2.2.2.1.1 hP hD hS C.2.2.2.2.2.2.2 (fun _ => rfl) hn hN hb (by omega) (by omega) d (fun q c2 H1 hK1 hP1 hD1 hS1 => ?_)
  have e : zA Z 8 = c2 := tys_same (Z := Z) (C.2.2.2.2.2.1.1.2 8 _ rfl).2 (hK1.2 9 (c2, .boolean) rfl).2
  subst e
  exact k9 q ls H1 locs (cells + 1) (slots + N0) (by omega) (by omega) hl hP1 hD1 hS1
theorem J_newqL {Z : GZ} {X : CX} {R : Room} {nL : Nat} {Q : State → Prop} {rc rs pc nx : Nat} {lv : List (Nat × Value)} {st : List Value} {ws : va_W} {cc : ByteArray} {own : String} {idx : Nat} {n : Int32} (N0 : Nat) (C : Cx Z X cc nL own) (d : dI cc pc (.anewarray idx) 3 nx) (hw : Cond.classLink own idx RX2 ∈ TSg) (hw2 : Cond.arrayOver (.object RX2) ∈ NWs) (hn : ¬ n < 0) (hN : n.toNatClampNeg = N0) (hb : N0 * 4 ≤ 536870912)
    (k9 : ∀ q : Nat, Jd Z X R nL Q rc rs nx lv (.ref q :: st) (ws ++ [(q, .inl (zA Z 3, N0, .inr (.inr (.inr (.inr (fun _ => none))))))])) : Jd Z X R nL Q (1 + rc) (N0 + rs) pc lv (.int n :: st) ws := by
  obtain ⟨d, rfl⟩ := d
  intro ls H locs cells slots hc hs hl hP hD hS
  refine va_newq (C := RX2) C.1 C.2.1 C.2.2.2.1 (C.2.2.2.2.1 _ hw) (C.2.2.2.2.2.1.2.1 _ hw2) C.2.2.2.2.2.1.1 hP hD hS C.2.2.2.2.2.2.2 hn hN hb (by omega) (by omega) d (fun q c2 H1 hK1 hP1 hD1 hS1 => ?_)
  have e : zA Z 3 = c2 := tys_same (Z := Z) (C.2.2.2.2.2.1.1.2 3 _ rfl).2 (hK1.2 9 (c2, .object RX2) rfl).2
  subst e
  exact k9 q ls H1 locs (cells + 1) (slots + N0) (by omega) (by omega) hl hP1 hD1 hS1
theorem J_newqK {Z : GZ} {X : CX} {R : Room} {nL : Nat} {Q : State → Prop} {rc rs pc nx : Nat} {lv : List (Nat × Value)} {st : List Value} {ws : va_W} {cc : ByteArray} {own : String} {idx : Nat} {n : Int32} (N0 : Nat) (C : Cx Z X cc nL own) (d : dI cc pc (.anewarray idx) 3 nx) (hw : Cond.classLink own idx RX1 ∈ TSg) (hw2 : Cond.arrayOver (.object RX1) ∈ NWs) (hn : ¬ n < 0) (hN : n.toNatClampNeg = N0) (hb : N0 * 4 ≤ 536870912)
    (k9 : ∀ q : Nat, Jd Z X R nL Q rc rs nx lv (.ref q :: st) (ws ++ [(q, .inl (zA Z 4, N0, .inr (.inr (.inr (.inr (fun _ => none))))))])) : Jd Z X R nL Q (1 + rc) (N0 + rs) pc lv (.int n :: st) ws := by
  obtain ⟨d, rfl⟩ := d
  intro ls H locs cells slots hc hs hl hP hD hS
  refine va_newq (C := RX1) C.1 C.2.1 C.2.2.2.1 (C.2.2.2.2.1 _ hw) (C.2.2.2.2.2.1.2.1 _ hw2) C.2.2.2.2.2.1.1 hP hD hS C.2.2.2.2.2.2.2 hn hN hb (by omega) (by omega) d (fun q c2 H1 hK1 hP1 hD1 hS1 => ?_)
  have e : zA Z 4 = c2 := tys_same (Z := Z) (C.2.2.2.2.2.1.1.2 4 _ rfl).2 (hK1.2 9 (c2, .object RX1) rfl).2
  subst e
  exact k9 q ls H1 locs (cells + 1) (slots + N0) (by omega) (by omega) hl hP1 hD1 hS1
theorem J_newqT {Z : GZ} {X : CX} {R : Room} {nL : Nat} {Q : State → Prop} {rc rs pc nx : Nat} {lv : List (Nat × Value)} {st : List Value} {ws : va_W} {cc : ByteArray} {own : String} {idx : Nat} {n : Int32} (N0 : Nat) (C : Cx Z X cc nL own) (d : dI cc pc (.anewarray idx) 3 nx) (hw : Cond.classLink own idx RX10 ∈ TSg) (hw2 : Cond.arrayOver (.object RX10) ∈ NWs) (hn : ¬ n < 0) (hN : n.toNatClampNeg = N0) (hb : N0 * 4 ≤ 536870912)
    (k9 : ∀ q : Nat, Jd Z X R nL Q rc rs nx lv (.ref q :: st) (ws ++ [(q, .inl (zA Z 5, N0, .inr (.inr (.inr (.inr (fun _ => none))))))])) : Jd Z X R nL Q (1 + rc) (N0 + rs) pc lv (.int n :: st) ws := by
  obtain ⟨d, rfl⟩ := d
  intro ls H locs cells slots hc hs hl hP hD hS
  refine va_newq (C := RX10) C.1 C.2.1 C.2.2.2.1 (C.2.2.2.2.1 _ hw) (C.2.2.2.2.2.1.2.1 _ hw2) C.2.2.2.2.2.1.1 hP hD hS C.2.2.2.2.2.2.2 hn hN hb (by omega) (by omega) d (fun q c2 H1 hK1 hP1 hD1 hS1 => ?_)
  have e : zA Z 5 = c2 := tys_same (Z := Z) (C.2.2.2.2.2.1.1.2 5 _ rfl).2 (hK1.2 9 (c2, .object RX10) rfl).2
  subst e
  exact k9 q ls H1 locs (cells + 1) (slots + N0) (by omega) (by omega) hl hP1 hD1 hS1
theorem J_newqS {Z : GZ} {X : CX} {R : Room} {nL : Nat} {Q : State → Prop} {rc rs pc nx : Nat} {lv : List (Nat × Value)} {st : List Value} {ws : va_W} {cc : ByteArray} {own : String} {idx : Nat} {n : Int32} (N0 : Nat) (C : Cx Z X cc nL own) (d : dI cc pc (.anewarray idx) 3 nx) (hw : Cond.classLink own idx "java/lang/String" ∈ TSg) (hw2 : Cond.arrayOver (.object "java/lang/String") ∈ NWs) (hn : ¬ n < 0) (hN : n.toNatClampNeg = N0) (hb : N0 * 4 ≤ 536870912)
    (k9 : ∀ q : Nat, Jd Z X R nL Q rc rs nx lv (.ref q :: st) (ws ++ [(q, .inl (zA Z 7, N0, .inr (.inr (.inr (.inr (fun _ => none))))))])) : Jd Z X R nL Q (1 + rc) (N0 + rs) pc lv (.int n :: st) ws := by
  obtain ⟨d, rfl⟩ := d
  intro ls H locs cells slots hc hs hl hP hD hS
  refine va_newq (C := "java/lang/String") C.1 C.2.1 C.2.2.2.1 (C.2.2.2.2.1 _ hw) (C.2.2.2.2.2.1.2.1 _ hw2) C.2.2.2.2.2.1.1 hP hD hS C.2.2.2.2.2.2.2 hn hN hb (by omega) (by omega) d (fun q c2 H1 hK1 hP1 hD1 hS1 => ?_)
  have e : zA Z 7 = c2 := tys_same (Z := Z) (C.2.2.2.2.2.1.1.2 7 _ rfl).2 (hK1.2 9 (c2, .object "java/lang/String") rfl).2
  subst e
  exact k9 q ls H1 locs (cells + 1) (slots + N0) (by omega) (by omega) hl hP1 hD1 hS1
theorem J_aastL {Z : GZ} {X : CX} {R : Room} {nL : Nat} {Q : State → Prop} {rc rs pc nx : Nat} {lv : List (Nat × Value)} {st : List Value} {ws : va_W} {cc : ByteArray} {own : String} {a v n : Nat} {f : Nat → Option Nat} {vs : List Value} {i : Int32} (ws2 : va_W) (q0 qk : Nat) (C : Cx Z X cc nL own) (d : dI cc pc .aastore 1 nx) (he : ws[q0]? = some (a, .inl (zA Z 3, n, .inr (.inr (.inr (.inr f)))))) (hv : ws[qk]? = some (v, .inr (1, vs))) (hin : vp_in i n) (h2 : ws.set q0 (a, .inl (zA Z 3, n, .inr (.inr (.inr (.inr (va_up f i.toNatClampNeg (some v))))))) = ws2) (k9 : Jd Z X R nL Q rc rs nx lv (st) ws2) : Jd Z X R nL Q rc rs pc lv (.ref v :: .int i :: .ref a :: st) ws := by
  obtain ⟨d, rfl⟩ := d
  subst h2
  intro ls H locs cells slots hc hs hl hP hD hS
  exact va_astq (r := (RX2, TX2, 6)) C.1 C.2.1 C.2.2.2.2.2.1.1 hP hD hS q0 3 qk 1 he rfl hv rfl hin d (fun H1 locs1 hP1 hD1 hS1 => k9 ls H1 locs1 cells slots hc hs hl hP1 hD1 hS1)
theorem J_aastK {Z : GZ} {X : CX} {R : Room} {nL : Nat} {Q : State → Prop} {rc rs pc nx : Nat} {lv : List (Nat × Value)} {st : List Value} {ws : va_W} {cc : ByteArray} {own : String} {a j n : Nat} {f : Nat → Option Nat} {i : Int32} (ws2 : va_W) (q0 : Nat) (C : Cx Z X cc nL own) (d : dI cc pc .aastore 1 nx) (hj : j < 43) (he : ws[q0]? = some (a, .inl (zA Z 4, n, .inr (.inr (.inr (.inr f)))))) (hin : vp_in i n) (h2 : ws.set q0 (a, .inl (zA Z 4, n, .inr (.inr (.inr (.inr (va_up f i.toNatClampNeg (some (zad Z j)))))))) = ws2) (k9 : Jd Z X R nL Q rc rs nx lv (st) ws2) : Jd Z X R nL Q rc rs pc lv (.ref (zad Z j) :: .int i :: .ref a :: st) ws := by
  obtain ⟨d, rfl⟩ := d
  subst h2
  intro ls H locs cells slots hc hs hl hP hD hS
  obtain ⟨cell, h1, h2, h3, h4⟩ := ((C.2.2.2.2.2.2.1.1 j hj).2.1).kept hS.2.1
  obtain ⟨cK, kC, e1, e2⟩ := C.2.2.2.2.2.1.2.2.2.1
  have e3 : cell.cls = cK := Option.some.inj (h3.symm.trans e1)
  refine va_astqM C.1 C.2.1 C.2.2.2.2.2.1.1 hP hD hS q0 4 he rfl ⟨cell, h1, h2, ⟨kC, by rw [e3]; exact e2⟩, fun comp2 hc2 => ?_⟩ hin d (fun H1 locs1 hP1 hD1 hS1 => k9 ls H1 locs1 cells slots hc hs hl hP1 hD1 hS1)
  have e5 : cell.cls = comp2 := Option.some.inj (h3.symm.trans hc2)
  rw [e5]
  rw [Vm.assignable, Vm.assignableAux]
  simp only [beq_self_eq_true, Bool.true_or]
theorem J_getsK {Z : GZ} {X : CX} {R : Room} {nL : Nat} {Q : State → Prop} {rc rs pc nx : Nat} {lv : List (Nat × Value)} {st : List Value} {ws : va_W} {cc : ByteArray} {own : String} {idx i : Nat} (C : Cx Z X cc nL own) (d : dI cc pc (.getstatic idx) 3 nx) (g : KF own idx i) (k9 : Jd Z X R nL Q rc rs nx lv (.ref (zad Z i) :: st) ws) : Jd Z X R nL Q rc rs pc lv (st) ws := by
  obtain ⟨d, rfl⟩ := d
  intro ls H locs cells slots hc hs hl hP hD hS
  exact va_gets C.1 C.2.1 (C.2.2.2.2.2.2.1.1 i g.1).1 hS C.2.2.2.1 (C.2.2.2.2.1 _ g.2) (fun _ h9 => h9) d (k9 ls H locs cells slots hc hs hl hP hD hS)
theorem J_getsKINDS {Z : GZ} {X : CX} {R : Room} {nL : Nat} {Q : State → Prop} {rc rs pc nx : Nat} {lv : List (Nat × Value)} {st : List Value} {ws : va_W} {cc : ByteArray} {own : String} {idx : Nat} {host : String} (C : Cx Z X cc nL own) (d : dI cc pc (.getstatic idx) 3 nx) (g : Cond.fieldLinkNest own idx RX8 "KINDS" "[LShadowRegistry$Kind;" host ∈ NWs) (k9 : Jd Z X R nL Q rc rs nx lv (.ref (zms Z 0) :: st) ws) : Jd Z X R nL Q rc rs pc lv (st) ws := by
  obtain ⟨d, rfl⟩ := d
  intro ls H locs cells slots hc hs hl hP hD hS
  exact va_getsN C.1 C.2.1 C.2.2.2.2.2.2.1.2.2.1 hS C.2.2.2.1 (va_Nw.use rfl (C.2.2.2.2.2.1.2.1 _ g)) (fun _ h9 => h9) d (k9 ls H locs cells slots hc hs hl hP hD hS)
theorem J_aaldKINDS {Z : GZ} {X : CX} {R : Room} {nL : Nat} {Q : State → Prop} {rc rs pc nx : Nat} {lv : List (Nat × Value)} {st : List Value} {ws : va_W} {cc : ByteArray} {own : String} {i : Int32} (C : Cx Z X cc nL own) (d : dI cc pc .aaload 1 nx) (hin : vp_in i 43) (k9 : Jd Z X R nL Q rc rs nx lv (.ref (zad Z i.toNatClampNeg) :: st) ws) : Jd Z X R nL Q rc rs pc lv (.int i :: .ref (zms Z 0) :: st) ws := by
  obtain ⟨d, rfl⟩ := d
  intro ls H locs cells slots hc hs hl hP hD hS
  obtain ⟨cell, h1, h2, h3, h4, h5, h6, h7⟩ := (C.2.2.2.2.2.2.1.2.2.2.1).kept hS.2.1
  have hlt : i.toNatClampNeg < 43 := Nat.not_le.mp fun q => hin (Or.inr q)
  exact W.aald C.1 C.2.1 h1 h2 rfl h3 (fun q => q.elim (fun q => hin (Or.inl q)) (fun q => by omega)) (h6 _ hlt) rfl rfl d (k9 ls H locs cells slots hc hs hl hP hD hS)
theorem J_alenC {Z : GZ} {X : CX} {R : Room} {nL : Nat} {Q : State → Prop} {rc rs pc nx : Nat} {lv : List (Nat × Value)} {st : List Value} {ws : va_W} {cc : ByteArray} {own : String} {a n : Nat} {ty : FieldType} {f : Nat → Value} (v : Int32) (C : Cx Z X cc nL own) (d : dI cc pc .arraylength 1 nx) (hT : va_T ty a n f (cF X) (cS X) (cS X).heap) (hv : Int32.ofNat n = v) (k9 : Jd Z X R nL Q rc rs nx lv (.int v :: st) ws) : Jd Z X R nL Q rc rs pc lv (.ref a :: st) ws := by
  obtain ⟨d, rfl⟩ := d
  intro ls H locs cells slots hc hs hl hP hD hS
  obtain ⟨cell, h1, h2, h3, h4, h5, h6, h7⟩ := hT.kept hS.2.1
  exact W.alen C.1 C.2.1 h1 h2 (h5.trans hv) rfl rfl d (k9 ls H locs cells slots hc hs hl hP hD hS)
theorem J_getKw {Z : GZ} {X : CX} {R : Room} {nL : Nat} {Q : State → Prop} {rc rs pc nx : Nat} {lv : List (Nat × Value)} {st : List Value} {ws : va_W} {cc : ByteArray} {own : String} {idx i : Nat} (C : Cx Z X cc nL own) (d : dI cc pc (.getfield idx) 3 nx) (hi : i < 43) (g : Cond.fieldLink own idx RX1 "word" "J" ∈ TSg) (k9 : Jd Z X R nL Q rc rs nx lv (.long (kWd.getD i 0) :: st) ws) : Jd Z X R nL Q rc rs pc lv (.ref (zad Z i) :: st) ws := by
  obtain ⟨d, rfl⟩ := d
  intro ls H locs cells slots hc hs hl hP hD hS
  exact vk_getf C.1 C.2.1 (C.2.2.2.2.2.2.1.1 i hi).2.2 hS C.2.2.2.1 (C.2.2.2.2.1 _ g) (fun _ h9 => h9) d (k9 ls H locs cells slots hc hs hl hP hD hS)
theorem zad_inj {Z : GZ} {X : CX} {cc : ByteArray} {nL : Nat} {own : String} (C : Cx Z X cc nL own) {i j : Nat} (hi : i < 43) (hj : j < 43) (h : zad Z i = zad Z j) : i = j := C.2.2.2.2.2.2.1.2.1 i j hi hj h
