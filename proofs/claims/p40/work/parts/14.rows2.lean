/-! Rows for texts, bytes, rows of rows, inherited methods. -/
theorem J_nret {Z : GZ} {X : CX} {R : Room} {nL : Nat} {K : Option Value → va_W → Prop} {rc rs pc nx : Nat} {lv : List (Nat × Value)} {ws : va_W} {cc : ByteArray} {own nm : String} {v : Int32} {ty : FieldType} (C : Cx Z X cc nL own) (E : Cr X (some ty) nm) (d : dI cc pc .ireturn 1 nx) (hv : narrow ty (.int v) = .int v) (h : K (some (.int v)) ws) : Jd Z X R nL (QM Z X R K) rc rs pc lv [.int v] ws := by
  intro ls H locs cells slots hc hs hl hP hD hS
  refine W.widen (k := R.cells) (n := R.slots) (by omega) (by omega) ?_
  exact W.zret C.1 C.2.1 E.1 hv (fun t ht hW => ⟨⟨_, ws, rfl, h, by rw [ht]; exact hP, hD⟩, hS.F ht⟩) hS.2.2 d.1 (hlocks := E.2.1)
theorem J_getsCS {Z : GZ} {X : CX} {R : Room} {nL : Nat} {Q : State → Prop} {rc rs pc nx : Nat} {lv : List (Nat × Value)} {st : List Value} {ws : va_W} {cc : ByteArray} {own : String} {idx : Nat} (C : Cx Z X cc nL own) (d : dI cc pc (.getstatic idx) 3 nx) (g : Cond.fieldLink own idx "java/lang/String" "COMPACT_STRINGS" "Z" ∈ TSg) (k9 : Jd Z X R nL Q rc rs nx lv (.int 1 :: st) ws) : Jd Z X R nL Q rc rs pc lv (st) ws := by
  obtain ⟨d, rfl⟩ := d
  intro ls H locs cells slots hc hs hl hP hD hS
  exact va_gets C.1 C.2.1 C.2.2.2.2.2.2.1.2.2.2.2.2.2.2.1 hS C.2.2.2.1 (C.2.2.2.2.1 _ g) (fun _ h9 => h9) d (k9 ls H locs cells slots hc hs hl hP hD hS)
theorem J_getsFm {Z : GZ} {X : CX} {R : Room} {nL : Nat} {Q : State → Prop} {rc rs pc nx : Nat} {lv : List (Nat × Value)} {st : List Value} {ws : va_W} {cc : ByteArray} {own : String} {idx : Nat} (C : Cx Z X cc nL own) (d : dI cc pc (.getstatic idx) 3 nx) (g : Cond.fieldLink own idx "jdk/internal/util/Preconditions" "SIOOBE_FORMATTER" "Ljava/util/function/BiFunction;" ∈ TSg) (kn : Jd Z X R nL Q rc rs nx lv (.null :: st) ws) (kr : ∀ t : Nat, Jd Z X R nL Q rc rs nx lv (.ref t :: st) ws) : Jd Z X R nL Q rc rs pc lv (st) ws := by
  obtain ⟨d, rfl⟩ := d
  intro ls H locs cells slots hc hs hl hP hD hS
  rcases C.2.2.2.2.2.2.1.2.2.2.2.2.2.2.2.1 with h | ⟨t, h⟩
  · exact va_gets C.1 C.2.1 h hS C.2.2.2.1 (C.2.2.2.2.1 _ g) (fun _ h9 => h9) d (kn ls H locs cells slots hc hs hl hP hD hS)
  · exact va_gets C.1 C.2.1 h hS C.2.2.2.1 (C.2.2.2.2.1 _ g) (fun _ h9 => h9) d (kr t ls H locs cells slots hc hs hl hP hD hS)
theorem J_getsDT {Z : GZ} {X : CX} {R : Room} {nL : Nat} {Q : State → Prop} {rc rs pc nx : Nat} {lv : List (Nat × Value)} {st : List Value} {ws : va_W} {cc : ByteArray} {own : String} {idx : Nat} (C : Cx Z X cc nL own) (d : dI cc pc (.getstatic idx) 3 nx) (g : Cond.fieldLink own idx "java/lang/Integer" "DigitTens" "[B" ∈ TSg) (k9 : Jd Z X R nL Q rc rs nx lv (.ref (zms Z 1) :: st) ws) : Jd Z X R nL Q rc rs pc lv (st) ws := by
  obtain ⟨d, rfl⟩ := d
  intro ls H locs cells slots hc hs hl hP hD hS
  exact va_gets C.1 C.2.1 C.2.2.2.2.2.2.1.2.2.2.2.1.1 hS C.2.2.2.1 (C.2.2.2.2.1 _ g) (fun _ h9 => h9) d (k9 ls H locs cells slots hc hs hl hP hD hS)
theorem J_getsDO {Z : GZ} {X : CX} {R : Room} {nL : Nat} {Q : State → Prop} {rc rs pc nx : Nat} {lv : List (Nat × Value)} {st : List Value} {ws : va_W} {cc : ByteArray} {own : String} {idx : Nat} (C : Cx Z X cc nL own) (d : dI cc pc (.getstatic idx) 3 nx) (g : Cond.fieldLink own idx "java/lang/Integer" "DigitOnes" "[B" ∈ TSg) (k9 : Jd Z X R nL Q rc rs nx lv (.ref (zms Z 2) :: st) ws) : Jd Z X R nL Q rc rs pc lv (st) ws := by
  obtain ⟨d, rfl⟩ := d
  intro ls H locs cells slots hc hs hl hP hD hS
  exact va_gets C.1 C.2.1 C.2.2.2.2.2.2.1.2.2.2.2.2.1.1 hS C.2.2.2.1 (C.2.2.2.2.1 _ g) (fun _ h9 => h9) d (k9 ls H locs cells slots hc hs hl hP hD hS)
theorem J_baldDT {Z : GZ} {X : CX} {R : Room} {nL : Nat} {Q : State → Prop} {rc rs pc nx : Nat} {lv : List (Nat × Value)} {st : List Value} {ws : va_W} {cc : ByteArray} {own : String} {j : Nat} (C : Cx Z X cc nL own) (d : dI cc pc .baload 1 nx) (hj : j < 100) (k9 : Jd Z X R nL Q rc rs nx lv (.int (nI (48 + j / 10)) :: st) ws) : Jd Z X R nL Q rc rs pc lv (.int (nI j) :: .ref (zms Z 1) :: st) ws := by
  obtain ⟨d, rfl⟩ := d
  intro ls H locs cells slots hc hs hl hP hD hS
  obtain ⟨cell, h1, h2, h3, h4, h5, h6, h7⟩ := (C.2.2.2.2.2.2.1.2.2.2.2.1.2).kept hS.2.1
  have hin := vp_in_nI (n := j) (N := 100) hj (by decide)
  have e9 : (nI j).toNatClampNeg = j := nI_clamp (by omega)
  refine W.bald (v := .int (nI (48 + j / 10))) C.1 C.2.1 h1 h2 h3 (fun q => q.elim (fun q => hin (Or.inl q)) (fun q => ?_)) ?_ rfl rfl d (k9 ls H locs cells slots hc hs hl hP hD hS)
  · rw [e9] at q; omega
  · rw [e9]; exact h6 j hj
theorem J_baldDO {Z : GZ} {X : CX} {R : Room} {nL : Nat} {Q : State → Prop} {rc rs pc nx : Nat} {lv : List (Nat × Value)} {st : List Value} {ws : va_W} {cc : ByteArray} {own : String} {j : Nat} (C : Cx Z X cc nL own) (d : dI cc pc .baload 1 nx) (hj : j < 100) (k9 : Jd Z X R nL Q rc rs nx lv (.int (nI (48 + j % 10)) :: st) ws) : Jd Z X R nL Q rc rs pc lv (.int (nI j) :: .ref (zms Z 2) :: st) ws := by
  obtain ⟨d, rfl⟩ := d
  intro ls H locs cells slots hc hs hl hP hD hS
  obtain ⟨cell, h1, h2, h3, h4, h5, h6, h7⟩ := (C.2.2.2.2.2.2.1.2.2.2.2.2.1.2.1).kept hS.2.1
  have hin := vp_in_nI (n := j) (N := 100) hj (by decide)
  have e9 : (nI j).toNatClampNeg = j := nI_clamp (by omega)
  refine W.bald (v := .int (nI (48 + j % 10))) C.1 C.2.1 h1 h2 h3 (fun q => q.elim (fun q => hin (Or.inl q)) (fun q => ?_)) ?_ rfl rfl d (k9 ls H locs cells slots hc hs hl hP hD hS)
  · rw [e9] at q; omega
  · rw [e9]; exact h6 j hj
/-- the script -/
theorem J_slen {Z : GZ} {X : CX} {R : Room} {nL : Nat} {Q : State → Prop} {rc rs pc nx : Nat} {lv : List (Nat × Value)} {st : List Value} {ws : va_W} {cc : ByteArray} {own : String} (C : Cx Z X cc nL own) (d : dI cc pc .arraylength 1 nx) (k9 : Jd Z X R nL Q rc rs nx lv (.int (nI (zms Z 4)) :: st) ws) : Jd Z X R nL Q rc rs pc lv (.ref (zms Z 3) :: st) ws :=
  J_alenC (nI (zms Z 4)) C d C.2.2.2.2.2.2.1.2.2.2.2.2.1.2.2 rfl k9
theorem J_sld {Z : GZ} {X : CX} {R : Room} {nL : Nat} {Q : State → Prop} {rc rs pc nx : Nat} {lv : List (Nat × Value)} {st : List Value} {ws : va_W} {cc : ByteArray} {own : String} {i : Int32} (C : Cx Z X cc nL own) (d : dI cc pc .iaload 1 nx) (hin : vp_in i (zms Z 4)) (k9 : Jd Z X R nL Q rc rs nx lv (.int (zxs Z i.toNatClampNeg) :: st) ws) : Jd Z X R nL Q rc rs pc lv (.int i :: .ref (zms Z 3) :: st) ws := by
  obtain ⟨d, rfl⟩ := d
  intro ls H locs cells slots hc hs hl hP hD hS
  exact va_ti C.1 C.2.1 C.2.2.2.2.2.2.1.2.2.2.2.2.1.2.2 hS hin rfl d (k9 ls H locs cells slots hc hs hl hP hD hS)
theorem J_getCoder {Z : GZ} {X : CX} {R : Room} {nL : Nat} {Q : State → Prop} {rc rs pc nx : Nat} {lv : List (Nat × Value)} {st : List Value} {ws : va_W} {cc : ByteArray} {own : String} {idx i : Nat} (C : Cx Z X cc nL own) (d : dI cc pc (.getfield idx) 3 nx) (hi : i < 43) (g : Cond.fieldLink own idx "java/lang/String" "coder" "B" ∈ TSg) (k9 : Jd Z X R nL Q rc rs nx lv (.int 0 :: st) ws) : Jd Z X R nL Q rc rs pc lv (.ref (zsk Z i) :: st) ws := by
  obtain ⟨d, rfl⟩ := d
  intro ls H locs cells slots hc hs hl hP hD hS
  exact vk_getf C.1 C.2.1 (C.2.2.2.2.2.2.1.2.2.2.2.2.2.1 i hi).2.1 hS C.2.2.2.1 (C.2.2.2.2.1 _ g) (fun _ h9 => h9) d (k9 ls H locs cells slots hc hs hl hP hD hS)
theorem J_getValue {Z : GZ} {X : CX} {R : Room} {nL : Nat} {Q : State → Prop} {rc rs pc nx : Nat} {lv : List (Nat × Value)} {st : List Value} {ws : va_W} {cc : ByteArray} {own : String} {idx i : Nat} (C : Cx Z X cc nL own) (d : dI cc pc (.getfield idx) 3 nx) (hi : i < 43) (g : Cond.fieldLink own idx "java/lang/String" "value" "[B" ∈ TSg) (k9 : Jd Z X R nL Q rc rs nx lv (.ref (zsv Z i) :: st) ws) : Jd Z X R nL Q rc rs pc lv (.ref (zsk Z i) :: st) ws := by
  obtain ⟨d, rfl⟩ := d
  intro ls H locs cells slots hc hs hl hP hD hS
  exact vk_getf C.1 C.2.1 (C.2.2.2.2.2.2.1.2.2.2.2.2.2.1 i hi).2.2.1 hS C.2.2.2.1 (C.2.2.2.2.1 _ g) (fun _ h9 => h9) d (k9 ls H locs cells slots hc hs hl hP hD hS)
theorem J_alenS {Z : GZ} {X : CX} {R : Room} {nL : Nat} {Q : State → Prop} {rc rs pc nx : Nat} {lv : List (Nat × Value)} {st : List Value} {ws : va_W} {cc : ByteArray} {own : String} {i : Nat} (C : Cx Z X cc nL own) (d : dI cc pc .arraylength 1 nx) (hi : i < 43) (k9 : Jd Z X R nL Q rc rs nx lv (.int (nI (wLen.getD i 0)) :: st) ws) : Jd Z X R nL Q rc rs pc lv (.ref (zsv Z i) :: st) ws :=
  J_alenC (nI (wLen.getD i 0)) C d (C.2.2.2.2.2.2.1.2.2.2.2.2.2.1 i hi).2.2.2 rfl k9
theorem wLen_le : ∀ i, i < 43 → wLen.getD i 0 ≤ 12 := by decide
/-- an int row by the row that it is, a length that is a name -/
theorem J_alenN {Z : GZ} {X : CX} {R : Room} {nL : Nat} {Q : State → Prop} {rc rs pc nx : Nat} {lv : List (Nat × Value)} {st : List Value} {ws : va_W} {cc : ByteArray} {own : String} {a t0 n : Nat} {cA0 : ClassId} {y : (Nat → Int32) ⊕ (Nat → Int64) ⊕ (Nat → UInt32) ⊕ (Nat → UInt64) ⊕ (Nat → Option Nat)} {ty : FieldType} (q0 : Nat) (C : Cx Z X cc nL own) (d : dI cc pc .arraylength 1 nx) (he : ws[q0]? = some (a, .inl (cA0, n, y))) (ht : (tysZ Z)[t0]? = some (cA0, ty)) (k9 : Jd Z X R nL Q rc rs nx lv (.int (nI n) :: st) ws) : Jd Z X R nL Q rc rs pc lv (.ref a :: st) ws :=
  J_alen (t0 := t0) (nI n) q0 C d he ht rfl k9
/-- a constant text -/
theorem J_ldcS {Z : GZ} {X : CX} {R : Room} {nL : Nat} {Q : State → Prop} {rc rs pc nx : Nat} {lv : List (Nat × Value)} {st : List Value} {ws : va_W} {cc : ByteArray} {own : String} {idx : Nat} {tx : String} (j : Nat) (C : Cx Z X cc nL own) (d : dI cc pc (.ldc idx) 2 nx) (hj : txTab[j]? = some (own, idx, tx)) (k9 : Jd Z X R nL Q rc rs nx lv (.ref (zsk Z j) :: st) ws) : Jd Z X R nL Q rc rs pc lv (st) ws := by
  obtain ⟨d, rfl⟩ := d
  intro ls H locs cells slots hc hs hl hP hD hS
  exact va_ldcS C.1 C.2.1 C.2.2.2.1 (C.2.2.2.2.2.1.2.2.2.2.1 j _ hj) d (k9 ls H locs cells slots hc hs hl hP hD hS)
theorem J_ldcI {Z : GZ} {X : CX} {R : Room} {nL : Nat} {Q : State → Prop} {rc rs pc nx : Nat} {lv : List (Nat × Value)} {st : List Value} {ws : va_W} {cc : ByteArray} {own : String} {idx : Nat} (v : Int32) (C : Cx Z X cc nL own) (d : dI cc pc (.ldc idx) 2 nx) (hw : Cond.constant own idx v ∈ TSg) (k : Jd Z X R nL Q rc rs nx lv (.int v :: st) ws) : Jd Z X R nL Q rc rs pc lv (st) ws := by
  obtain ⟨d, rfl⟩ := d
  intro ls H locs cells slots hc hs hl hP hD hS
  exact lv_ldc C.1 C.2.1 C.2.2.2.1 (C.2.2.2.2.1 _ hw) d (k ls H locs cells slots hc hs hl hP hD hS)
theorem J_ifnonnull {Z : GZ} {X : CX} {R : Room} {nL : Nat} {Q : State → Prop} {rc rs pc nx : Nat} {lv : List (Nat × Value)} {st : List Value} {ws : va_W} {cc : ByteArray} {own : String} {x : Nat} {off : Int} (tgt : Nat) (C : Cx Z X cc nL own) (d : dI cc pc (.ifnonnull off) 3 nx) (ht : (pc : Int) + off = (tgt : Int)) (k : Jd Z X R nL Q rc rs tgt lv (st) ws) : Jd Z X R nL Q rc rs pc lv (.ref x :: st) ws := by
  obtain ⟨d, rfl⟩ := d
  intro ls H locs cells slots hc hs hl hP hD hS
  exact lv_ifnonnull C.1 C.2.1 d ht (k ls H locs cells slots hc hs hl hP hD hS)
theorem J_copyB {Z : GZ} {X : CX} {R : Room} {nL : Nat} {Q : State → Prop} {rc rs pc nx : Nat} {lv : List (Nat × Value)} {st : List Value} {ws : va_W} {cc : ByteArray} {own : String} {idx a0 a n0 n1 : Nat} {f g : Nat → Int32} {sp dp n : Int32} (ws2 : va_W) (q0 q1 : Nat) (C : Cx Z X cc nL own) (d : dI cc pc (.invokestatic idx) 3 nx) (hw : Cond.methodLink own idx arraycopyName ∈ TSg) (hw2 : Cond.native arraycopyName ∈ TSg) (hw3 : Cond.static arraycopyName ∈ TSg) (hw4 : Cond.initialized "java/lang/System" ∈ TSg) (ha0 : ws[q0]? = some (a0, .inl (zA Z 2, n0, .inl f))) (ha1 : ws[q1]? = some (a, .inl (zA Z 2, n1, .inl g)))
    (h1 : ¬ sp < 0) (h2 : ¬ dp < 0) (h3 : ¬ n < 0) (h4 : sp.toNatClampNeg + n.toNatClampNeg ≤ n0) (h5 : dp.toNatClampNeg + n.toNatClampNeg ≤ n1) (hfit : sb_Fit f) (hf : 1 ≤ R.frames) (hlo : (st.map fun v => v.category).sum + 18 ≤ R.locals)
    (hw5 : ws.set q1 (a, .inl (zA Z 2, n1, .inl (va_cpy f g sp.toNatClampNeg dp.toNatClampNeg n.toNatClampNeg))) = ws2) (k9 : Jd Z X R nL Q rc rs nx lv (st) ws2) : Jd Z X R nL Q rc rs pc lv (.int n :: .int dp :: .ref a :: .int sp :: .ref a0 :: st) ws := by
  obtain ⟨d, rfl⟩ := d
  subst hw5
  intro ls H locs cells slots hc hs hl hP hD hS
  exact va_copyi C.1 C.2.1 (C.2.2.1.trans hl.1.symm) C.2.2.2.1 (C.2.2.2.2.1 _ hw) (C.2.2.2.2.1 _ hw2) (C.2.2.2.2.1 _ hw3) (C.2.2.2.2.1 _ hw4) C.2.2.2.2.2.1.1 hP hD hS q0 q1 2 2 ha0 ha1 rfl rfl rfl h1 h2 h3 h4 h5 (fun i _ => hfit _) hf (by show _ + (7 + 11) ≤ _; omega) d (fun H1 locs1 hP1 hD1 hS1 => k9 ls H1 locs1 cells slots hc hs hl hP1 hD1 hS1)
theorem wByt_fit : ∀ i, i < 43 → ∀ j, fits .byte (.int ((wByt.getD i []).getD j 0)) = true := by
  intro i hi j
  by_cases hj : j < 12
  · have : ∀ i, i < 43 → ∀ j, j < 12 → fits .byte (.int ((wByt.getD i []).getD j 0)) = true := by decide +kernel
    exact this i hi j hj
  · have : ∀ i, i < 43 → (wByt.getD i []).length ≤ 12 := by decide +kernel
    have h9 := this i hi
    rw [List.getD_eq_getElem?_getD, List.getElem?_eq_none (by omega)]
    decide
theorem J_copyC {Z : GZ} {X : CX} {R : Room} {nL : Nat} {Q : State → Prop} {rc rs pc nx : Nat} {lv : List (Nat × Value)} {st : List Value} {ws : va_W} {cc : ByteArray} {own : String} {idx i a n1 : Nat} {g : Nat → Int32} {sp dp n : Int32} (ws2 : va_W) (q1 : Nat) (C : Cx Z X cc nL own) (d : dI cc pc (.invokestatic idx) 3 nx) (hi : i < 43) (hw : Cond.methodLink own idx arraycopyName ∈ TSg) (hw2 : Cond.native arraycopyName ∈ TSg) (hw3 : Cond.static arraycopyName ∈ TSg) (hw4 : Cond.initialized "java/lang/System" ∈ TSg) (ha1 : ws[q1]? = some (a, .inl (zA Z 2, n1, .inl g)))
    (h1 : ¬ sp < 0) (h2 : ¬ dp < 0) (h3 : ¬ n < 0) (h4 : sp.toNatClampNeg + n.toNatClampNeg ≤ wLen.getD i 0) (h5 : dp.toNatClampNeg + n.toNatClampNeg ≤ n1) (hf : 1 ≤ R.frames) (hlo : (st.map fun v => v.category).sum + 18 ≤ R.locals)
    (hw5 : ws.set q1 (a, .inl (zA Z 2, n1, .inl (va_cpy (fun j => (wByt.getD i []).getD j 0) g sp.toNatClampNeg dp.toNatClampNeg n.toNatClampNeg))) = ws2) (k9 : Jd Z X R nL Q rc rs nx lv (st) ws2) : Jd Z X R nL Q rc rs pc lv (.int n :: .int dp :: .ref a :: .int sp :: .ref (zsv Z i) :: st) ws := by
  obtain ⟨d, rfl⟩ := d
  subst hw5
  intro ls H locs cells slots hc hs hl hP hD hS
  exact vk_copyt C.1 C.2.1 (C.2.2.1.trans hl.1.symm) C.2.2.2.1 (C.2.2.2.2.1 _ hw) (C.2.2.2.2.1 _ hw2) (C.2.2.2.2.1 _ hw3) (C.2.2.2.2.1 _ hw4) C.2.2.2.2.2.1.1 hP hD hS (f := fun j => (wByt.getD i []).getD j 0) (C.2.2.2.2.2.2.1.2.2.2.2.2.2.1 i hi).2.2.2 q1 2 ha1 rfl h1 h2 h3 h4 h5 (fun j _ => wByt_fit i hi _) hf (by show _ + (7 + 11) ≤ _; omega) d (fun H1 locs1 hP1 hD1 hS1 => k9 ls H1 locs1 cells slots hc hs hl hP1 hD1 hS1)
theorem J_cloneB {Z : GZ} {X : CX} {R : Room} {nL : Nat} {Q : State → Prop} {rc rs pc nx : Nat} {lv : List (Nat × Value)} {st : List Value} {ws : va_W} {cc : ByteArray} {own : String} {idx a N : Nat} {f : Nat → Int32} (q0 : Nat) (C : Cx Z X cc nL own) (d : dI cc pc (.invokevirtual idx) 3 nx) (hw : Cond.methodLink own idx ⟨"[B", "clone", "()Ljava/lang/Object;"⟩ ∈ TSg) (hw1 : Cond.sameMethod "[B" "java/lang/Object" "clone" "()Ljava/lang/Object;" ∈ TSg) (hw2 : Cond.native ⟨"java/lang/Object", "clone", "()Ljava/lang/Object;"⟩ ∈ TSg) (hw3 : Cond.instanceMethod ⟨"java/lang/Object", "clone", "()Ljava/lang/Object;"⟩ ∈ TSg) (hw4 : Cond.selects "[B" ⟨"[B", "clone", "()Ljava/lang/Object;"⟩ ⟨"java/lang/Object", "clone", "()Ljava/lang/Object;"⟩ ∈ TSg) (hw5 : Cond.castable "[B" "java/lang/Cloneable" ∈ NWs)
    (he : ws[q0]? = some (a, .inl (zA Z 2, N, .inl f))) (hfit : sb_Fit f) (hf : 1 ≤ R.frames) (hlo : (st.map fun v => v.category).sum + 14 ≤ R.locals) (k9 : ∀ q : Nat, Jd Z X R nL Q rc rs nx lv (.ref q :: st) (ws ++ [(q, .inl (zA Z 2, N, .inl f))])) : Jd Z X R nL Q (1 + rc) (N + rs) pc lv (.ref a :: st) ws := by
  obtain ⟨d, rfl⟩ := d
  intro ls H locs cells slots hc hs hl hP hD hS
  refine va_clone C.1 C.2.1 (C.2.2.1.trans hl.1.symm) C.2.2.2.1 (C.2.2.2.2.1 _ hw) (C.2.2.2.2.1 _ hw1) (C.2.2.2.2.1 _ hw2) (C.2.2.2.2.1 _ hw3) (C.2.2.2.2.1 _ hw4) (C.2.2.2.2.2.1.2.1 _ hw5) C.2.2.2.2.2.1.1 hP hD hS C.2.2.2.2.2.2.2 q0 2 he rfl (va_nm_byte (C.2.2.2.2.2.1.1.2 2 _ rfl).2) ?_ hf hlo (by omega) (by show slots + N ≤ _; omega) d (fun q H1 hK1 hP1 hD1 hS1 => k9 q ls H1 locs (cells + 1) (slots + N) (by omega) (by omega) hl hP1 hD1 hS1)
  intro i v hv
  rw [vp_cell_i] at hv
  have hlt : i < N := by
    have := (Array.getElem?_eq_some_iff.mp hv).1
    rwa [arrV_size] at this
  rw [arrV_read _ _ hlt] at hv
  cases hv
  exact hfit i
theorem J_castB {Z : GZ} {X : CX} {R : Room} {nL : Nat} {Q : State → Prop} {rc rs pc nx : Nat} {lv : List (Nat × Value)} {st : List Value} {ws : va_W} {cc : ByteArray} {own : String} {idx a N : Nat} {f : Nat → Int32} (q0 : Nat) (C : Cx Z X cc nL own) (d : dI cc pc (.checkcast idx) 3 nx) (hw : Cond.classLink own idx "[B" ∈ TSg) (he : ws[q0]? = some (a, .inl (zA Z 2, N, .inl f))) (k9 : Jd Z X R nL Q rc rs nx lv (.ref a :: st) ws) : Jd Z X R nL Q rc rs pc lv (.ref a :: st) ws := by
  obtain ⟨d, rfl⟩ := d
  intro ls H locs cells slots hc hs hl hP hD hS
  exact va_castA C.1 C.2.1 C.2.2.2.1 (C.2.2.2.2.1 _ hw) hP q0 he (va_nm_byte (C.2.2.2.2.2.1.1.2 2 _ rfl).2) d (k9 ls H locs cells slots hc hs hl hP hD hS)
/-- rows of references: stores -/
theorem J_aastS {Z : GZ} {X : CX} {R : Room} {nL : Nat} {Q : State → Prop} {rc rs pc nx : Nat} {lv : List (Nat × Value)} {st : List Value} {ws : va_W} {cc : ByteArray} {own : String} {a j n : Nat} {f : Nat → Option Nat} {i : Int32} (ws2 : va_W) (q0 : Nat) (C : Cx Z X cc nL own) (d : dI cc pc .aastore 1 nx) (hj : j < 43) (he : ws[q0]? = some (a, .inl (zA Z 7, n, .inr (.inr (.inr (.inr f)))))) (hin : vp_in i n) (h2 : ws.set q0 (a, .inl (zA Z 7, n, .inr (.inr (.inr (.inr (va_up f i.toNatClampNeg (some (zsk Z j)))))))) = ws2) (k9 : Jd Z X R nL Q rc rs nx lv (st) ws2) : Jd Z X R nL Q rc rs pc lv (.ref (zsk Z j) :: .int i :: .ref a :: st) ws := by
  obtain ⟨d, rfl⟩ := d
  subst h2
  intro ls H locs cells slots hc hs hl hP hD hS
  obtain ⟨cell, h1, h2, h3, h4⟩ := ((C.2.2.2.2.2.2.1.2.2.2.2.2.2.1 j hj).1).kept hS.2.1
  obtain ⟨-, e1, kC, e2, -⟩ := C.2.2.2.2.2.1.1.1 10 _ rfl
  have e3 : cell.cls = Z.1.1 10 := Option.some.inj (h3.symm.trans e1)
  refine va_astqM (E := "java/lang/String") C.1 C.2.1 C.2.2.2.2.2.1.1 hP hD hS q0 7 he rfl ⟨cell, h1, h2, ⟨kC, by rw [e3]; exact e2⟩, fun comp2 hc2 => ?_⟩ hin d (fun H1 locs1 hP1 hD1 hS1 => k9 ls H1 locs1 cells slots hc hs hl hP1 hD1 hS1)
  have e5 : cell.cls = comp2 := Option.some.inj (h3.symm.trans hc2)
  rw [e5]
  rw [Vm.assignable, Vm.assignableAux]
  simp only [beq_self_eq_true, Bool.true_or]
theorem J_aastT {Z : GZ} {X : CX} {R : Room} {nL : Nat} {Q : State → Prop} {rc rs pc nx : Nat} {lv : List (Nat × Value)} {st : List Value} {ws : va_W} {cc : ByteArray} {own : String} {a v n : Nat} {f : Nat → Option Nat} {vs : List Value} {i : Int32} (ws2 : va_W) (q0 qk : Nat) (C : Cx Z X cc nL own) (d : dI cc pc .aastore 1 nx) (he : ws[q0]? = some (a, .inl (zA Z 5, n, .inr (.inr (.inr (.inr f)))))) (hv : ws[qk]? = some (v, .inr (9, vs))) (hin : vp_in i n) (h2 : ws.set q0 (a, .inl (zA Z 5, n, .inr (.inr (.inr (.inr (va_up f i.toNatClampNeg (some v))))))) = ws2) (k9 : Jd Z X R nL Q rc rs nx lv (st) ws2) : Jd Z X R nL Q rc rs pc lv (.ref v :: .int i :: .ref a :: st) ws := by
  obtain ⟨d, rfl⟩ := d
  subst h2
  intro ls H locs cells slots hc hs hl hP hD hS
  exact va_astq (r := (RX10, TX10, 5)) C.1 C.2.1 C.2.2.2.2.2.1.1 hP hD hS q0 5 qk 9 he rfl hv rfl hin d (fun H1 locs1 hP1 hD1 hS1 => k9 ls H1 locs1 cells slots hc hs hl hP1 hD1 hS1)
theorem J_aastTN {Z : GZ} {X : CX} {R : Room} {nL : Nat} {Q : State → Prop} {rc rs pc nx : Nat} {lv : List (Nat × Value)} {st : List Value} {ws : va_W} {cc : ByteArray} {own : String} {a n : Nat} {f : Nat → Option Nat} {i : Int32} (ws2 : va_W) (q0 : Nat) (C : Cx Z X cc nL own) (d : dI cc pc .aastore 1 nx) (he : ws[q0]? = some (a, .inl (zA Z 5, n, .inr (.inr (.inr (.inr f)))))) (hin : vp_in i n) (h2 : ws.set q0 (a, .inl (zA Z 5, n, .inr (.inr (.inr (.inr (va_up f i.toNatClampNeg none)))))) = ws2) (k9 : Jd Z X R nL Q rc rs nx lv (st) ws2) : Jd Z X R nL Q rc rs pc lv (.null :: .int i :: .ref a :: st) ws := by
  obtain ⟨d, rfl⟩ := d
  subst h2
  intro ls H locs cells slots hc hs hl hP hD hS
  exact va_astqN C.1 C.2.1 C.2.2.2.2.2.1.1 hP hD hS q0 5 he rfl hin d (fun H1 locs1 hP1 hD1 hS1 => k9 ls H1 locs1 cells slots hc hs hl hP1 hD1 hS1)
theorem J_aaldA {Z : GZ} {X : CX} {R : Room} {nL : Nat} {Q : State → Prop} {rc rs pc nx : Nat} {lv : List (Nat × Value)} {st : List Value} {ws : va_W} {cc : ByteArray} {own : String} {a n : Nat} {f : Nat → Option Nat} {i : Int32} (q0 : Nat) (C : Cx Z X cc nL own) (d : dI cc pc .aaload 1 nx) (he : ws[q0]? = some (a, .inl (zA Z 6, n, .inr (.inr (.inr (.inr f)))))) (hin : vp_in i n) (k9 : Jd Z X R nL Q rc rs nx lv (va_rf (f i.toNatClampNeg) :: st) ws) : Jd Z X R nL Q rc rs pc lv (.int i :: .ref a :: st) ws := by
  obtain ⟨d, rfl⟩ := d
  intro ls H locs cells slots hc hs hl hP hD hS
  have hlt : i.toNatClampNeg < n := Nat.not_le.mp fun q => hin (Or.inr q)
  exact W.aald (v := va_rf (f i.toNatClampNeg)) (ty := .array .int) C.1 C.2.1 (hP q0 _ he) ((C.2.2.2.2.2.1.1.2 6 _ rfl).1 n (fun j => va_rf (f j))) rfl (fun q => by cases q) (by show ¬ (i < 0 ∨ (arrV _ _ _).slots.size ≤ _); rw [arrV_size]; exact hin) (by show (arrV _ _ _).slots[_]? = _; rw [arrV_read _ _ hlt]) rfl rfl d (k9 ls H locs cells slots hc hs hl hP hD hS)
theorem J_aastA {Z : GZ} {X : CX} {R : Room} {nL : Nat} {Q : State → Prop} {rc rs pc nx : Nat} {lv : List (Nat × Value)} {st : List Value} {ws : va_W} {cc : ByteArray} {own : String} {a v n n2 : Nat} {f : Nat → Option Nat} {g : Nat → Int32} {i : Int32} (ws2 : va_W) (q0 qk : Nat) (C : Cx Z X cc nL own) (d : dI cc pc .aastore 1 nx) (he : ws[q0]? = some (a, .inl (zA Z 6, n, .inr (.inr (.inr (.inr f)))))) (hv : ws[qk]? = some (v, .inl (zA Z 0, n2, .inl g))) (hin : vp_in i n) (h2 : ws.set q0 (a, .inl (zA Z 6, n, .inr (.inr (.inr (.inr (va_up f i.toNatClampNeg (some v))))))) = ws2) (k9 : Jd Z X R nL Q rc rs nx lv (st) ws2) : Jd Z X R nL Q rc rs pc lv (.ref v :: .int i :: .ref a :: st) ws := by
  obtain ⟨d, rfl⟩ := d
  subst h2
  intro ls H locs cells slots hc hs hl hP hD hS
  have hlt : i.toNatClampNeg < n := Nat.not_le.mp fun q => hin (Or.inr q)
  have h0 : ¬ i < 0 := fun q => hin (Or.inl q)
  obtain ⟨kA, a1, a2, a3⟩ := C.2.2.2.2.2.1.2.2.2.2.2
  obtain ⟨kI, hkI⟩ : ∃ kI : Class, (cS X).vm.classes[zA Z 0]? = some kI := by
    obtain ⟨k0, h0⟩ := Vm.findClass_spec (C.2.2.2.2.2.1.1.2 0 _ rfl).2
    exact ⟨k0, h0.1⟩
  refine W.aast (cell := vp_cell (zA Z 6) (n, .inr (.inr (.inr (.inr f))))) (cv := vp_cell (zA Z 0) (n2, .inl g)) (k := kA) (kv := kI) (kcomp := kI) (comp := zA Z 0) (t := .array .int) C.1 C.2.1 (hP q0 _ he) (fun q h => by cases h) (fun h => by cases h) a2 a3 rfl hkI ⟨h0, by show _ < (arrV _ _ _).slots.size; rw [arrV_size]; exact hlt⟩ (hP qk _ hv) (fun q h => by cases h) hkI ?_ rfl rfl d (fun H1 e z oq => ?_)
  · show (cS X).vm.assignable (zA Z 0) (zA Z 0) = true
    rw [Vm.assignable, Vm.assignableAux]
    simp only [beq_self_eq_true, Bool.true_or]
  · refine k9 ls H1 _ cells slots hc hs hl (hP.set hD he ?_ oq) (hD.set he) (hS.put z oq (hD.2 q0 _ he))
    show H1[a]? = some (vp_cell _ _)
    rw [e]
    rw [vp_cell_q, vp_cell_q, arrV_store]
    congr 2
    funext q
    by_cases hq : q = i.toNatClampNeg
    · subst hq
      simp [updV, va_up, va_rf]
    · simp [updV, va_up, hq]
/-- a new row of rows -/
theorem anewA {p : Program} {l : Launch} {e : Env} {R : Room} {s : State} {m : MethodId} {args : Array Value} {below : List Frame} {meth : Method} {c : Code} {T : State} {locs : List Loc} {cells slots : Nat} (X : Stand p l e R s m args below meth c T locs cells slots) (hexec : p.tables.exec = Jvm.exec) {own : String} {index : Nat} {comp cA : ClassId} {kA : Class}
    (hown : s.vm.findClass own = some m.cls) (hclink : (Cond.classLink own index "[I").before args s = true) (hcomp : s.vm.findClass "[I" = some comp) (hidx : (s.vm.classes.findIdx? fun x => match x.kind with | .array component _ => component == comp | _ => false) = some cA) (hkA : s.vm.classes[cA]? = some kA) (hkindA : kA.kind = .array comp (.array .int))
    {g : JFrame} (hg : g.method = m) (hdg : decode c.code g.pc = .ok (.anewarray index, 3)) {n : Int32} {rest : List Value} (hstack : g.stack = .int n :: rest)
    (hn : ¬ n < 0) (hbytes : n.toNatClampNeg * 4 ≤ 536870912) (hcells : cells + 1 ≤ R.cells) (hslots : slots + n.toNatClampNeg ≤ R.slots) :
    ∃ (vm₁ : Vm), s.WarmedH vm₁ ∧
      Stand p l e R s m args below meth c ((T.setVm vm₁).pushCell { cls := cA, slots := Array.replicate n.toNatClampNeg .null, vm := .none }) locs (cells + 1) (slots + n.toNatClampNeg) ∧
      ∀ target, Steps p.tables e below (((T.setVm vm₁).pushCell { cls := cA, slots := Array.replicate n.toNatClampNeg .null, vm := .none }).setTop { g with pc := g.pc + 3, stack := .ref T.heap.size :: rest }) target →
        Steps p.tables e below (T.setTop g) target := by
  subst hg
  have hpl : e.platform.magicAccessors = ({} : Platform).magicAccessors := by rw [X.admits.platform]
  obtain ⟨kComp, hkComp, -⟩ := Vm.findClass_spec hcomp
  obtain ⟨cc, hfcc, hcl⟩ := Cond.classLink_spec hown hclink e.platform hpl
  cases hcomp.symm.trans hfcc
  obtain ⟨hg₁, hwarm₁, hready₁⟩ := State.classEntry (e := e) X.warmed hcl
  generalize T.vm.noted g.method.cls index (.cls comp) = vm₁ at hg₁ hwarm₁ hready₁
  have hal : s.vm.Alike vm₁ := hwarm₁.alike
  obtain ⟨kComp₁, hkComp₁, -⟩ := hal.2.2 _ _ hkComp
  obtain ⟨kA₁, hkA₁, heA⟩ := hal.2.2 _ _ hkA
  have hkindA₁ : kA₁.kind = .array comp (.array .int) := by rw [heA]; exact hkindA
  have hidx₁ : (vm₁.classes.findIdx? fun x => match x.kind with | .array component _ => component == comp | _ => false) = some cA := by
    rw [hal.findIdx?_eq _ (fun _ => rfl)]; exact hidx
  have hlimit : ¬ n.toNatClampNeg > e.platform.arrayLengthLimit := by rw [Launch.admits_arrayLengthLimit X.admits]; omega
  have hheap : ¬ n.toNatClampNeg * componentBytes (.array .int) > e.platform.maxHeapBytes := by
    rw [Launch.admits_maxHeapBytes X.admits]; show ¬ n.toNatClampNeg * 4 > 536870912; omega
  have X₁ := X.noted hwarm₁
  have X₂ := X₁.pushed { cls := cA, slots := Array.replicate n.toNatClampNeg .null, vm := .none }
  obtain ⟨hr1, hr2⟩ := X.roomAbove hcells hslots
  refine ⟨vm₁, hwarm₁, by simpa using X₂, fun target hrest => ?_⟩
  jvm_step X.here [hexec, hdg, anewarray.wp_cold (e := e) (s := T) (f := g) X.here.top hg₁ hready₁,
    anewarray.wp_ready (e := e) (s := T.setVm vm₁) (f := g) (kc := kComp₁) (k := kA₁) (type := .array .int) X.here.top hready₁ hkComp₁ hidx₁ hkA₁ hkindA₁ rfl hstack hn hlimit hheap]
  exact ⟨by show T.heap.size < _; omega, by show T.slotsUsed + _ ≤ _; exact hr2, hrest⟩
theorem va_nm_int2 {s : State} {cA : ClassId} (h : va_RA s cA .int) : s.vm.findClass "[I" = some cA := by
  have e : "[" ++ FieldType.int.toString = "[I" := by decide +kernel
  rw [← e]
  exact h
theorem J_newqA {Z : GZ} {X : CX} {R : Room} {nL : Nat} {Q : State → Prop} {rc rs pc nx : Nat} {lv : List (Nat × Value)} {st : List Value} {ws : va_W} {cc : ByteArray} {own : String} {idx : Nat} {n : Int32} (N0 : Nat) (C : Cx Z X cc nL own) (d : dI cc pc (.anewarray idx) 3 nx) (hw : Cond.classLink own idx "[I" ∈ TSg) (hn : ¬ n < 0) (hN : n.toNatClampNeg = N0) (hb : N0 * 4 ≤ 536870912)
    (k9 : ∀ q : Nat, Jd Z X R nL Q rc rs nx lv (.ref q :: st) (ws ++ [(q, .inl (zA Z 6, N0, .inr (.inr (.inr (.inr (fun _ => none))))))])) : Jd Z X R nL Q (1 + rc) (N0 + rs) pc lv (.int n :: st) ws := by
  obtain ⟨d, rfl⟩ := d
  intro ls H locs cells slots hc hs hl hP hD hS
  intro T hT Xs
  subst hN
  obtain ⟨kA, a1, a2, a3⟩ := C.2.2.2.2.2.1.2.2.2.2.2
  obtain ⟨vm₁, -, X', st'⟩ := anewA Xs C.1 C.2.2.2.1 (C.2.2.2.2.1 _ hw) (va_nm_int2 (C.2.2.2.2.2.1.1.2 0 _ rfl).2) a1 a2 a3 (g := F0 (cM X) pc ls (.int n :: st)) rfl (by rw [C.2.1]; exact d) rfl hn hb (by omega) (by omega)
  have hH1 : H.push ({ cls := zA Z 6, slots := Array.replicate n.toNatClampNeg .null, vm := .none } : Cell) = ((T.setVm vm₁).pushCell { cls := zA Z 6, slots := Array.replicate n.toNatClampNeg .null, vm := .none }).heap := by rw [← hT]; rfl
  generalize hU : (T.setVm vm₁).pushCell { cls := zA Z 6, slots := Array.replicate n.toNatClampNeg .null, vm := .none } = U at X' st' hH1
  have z1 : U.heap.size = H.size + 1 := by rw [← hH1, Array.size_push]
  have e1 : U.heap[H.size]? = some (arrV (zA Z 6) n.toNatClampNeg (fun _ => .null)) := by rw [← hH1, Array.getElem?_push_size, ← arrV_new]
  have o1 : ∀ q : Nat, q < H.size → U.heap[q]? = H[q]? := fun q hq => by rw [← hH1, Array.getElem?_push, if_neg (Nat.ne_of_lt hq)]
  have hk : ∀ (k : Nat) (x : Nat × va_E), ws[k]? = some x → U.heap[x.1]? = H[x.1]? := fun k x hx => o1 x.1 ((hP k x hx).lt)
  have hsz : T.heap.size = H.size := by rw [hT]
  obtain ⟨t, b1, b2⟩ := k9 H.size ls U.heap locs (cells + 1) (slots + n.toNatClampNeg) (by omega) (by omega) hl ((hP.kept hk).app (fun k x hx => by
      match k, hx with
      | 0, hx => cases hx; exact e1
      | k + 1, hx => exact absurd hx (by simp))) (hD.push hP rfl (C.2.2.2.2.2.2.2 _ hS.1)) ⟨Nat.le_trans hS.1 (by omega), fun x h1 h2 => (o1 x (Nat.lt_of_lt_of_le h1 hS.1)).trans (hS.2.1 x h1 h2), hS.2.2⟩ U rfl X'
  exact ⟨t, st' t (by rw [hsz]; exact b1), b2⟩
theorem sel_priv {args : Array Value} {s : State} {C0 : String} {c : ClassId} {y : MethodName} (hC : s.vm.findClass C0 = some c) (hy : y.cls ≠ "java/lang/invoke/MethodHandle" ∧ y.cls ≠ "java/lang/invoke/VarHandle") (hsame : (Cond.sameMethod y.cls y.cls y.name y.desc).before args s = true) (hpriv : (Cond.privateMethod y).before args s = true) (hinst : (Cond.instanceMethod y).before args s = true) : (Cond.selects C0 y y).before args s = true := by
  obtain ⟨cn, ck, r1, hcn, hck, hni, hf, hn1⟩ := Cond.sameMethod_found hsame
  obtain ⟨mk, methM, hnamed, hmethM, -, -⟩ := Cond.instanceMethod_spec hinst
  have hfound : s.methodFound? y.cls y.name y.desc = some mk := State.methodFound?_of_named hnamed hy
  have hcls : mk.cls = cn := Option.some.inj ((findClass_of_methodNamed hnamed).symm.trans hcn)
  have hsel : selectMethod {} s.vm c mk = .method mk := selectMethod_private hmethM (Cond.privateMethod_at hpriv mk methM hnamed hmethM)
  simp only [Cond.before, Cond.holds, Cond.value, hC, hfound, hnamed, hsel, hcls, hck]
  simp; exact hni
/-- what a call of an inherited method asks of the tables: the receiver's class Cr0, the class ow where x is found -/
def LkU (own : String) (idx : Nat) (Cr0 ow : String) (x y : MethodName) : Prop := x.desc = y.desc ∧ (ow ≠ "java/lang/invoke/MethodHandle" ∧ ow ≠ "java/lang/invoke/VarHandle") ∧ Cond.methodLink own idx x ∈ TSg ∧ Cond.sameMethod x.cls ow x.name x.desc ∈ TSg ∧ Cond.selects Cr0 x y ∈ TSg ∧ Cond.instanceMethod y ∈ TSg ∧ Cond.instanceMethod ⟨ow, x.name, x.desc⟩ ∈ TSg ∧ ∃ b0 m0 r0, Cond.code ⟨ow, x.name, x.desc⟩ b0 m0 r0 ∈ TSg
def LkSU (own : String) (idx : Nat) (y : MethodName) : Prop := y.name ≠ "<init>" ∧ Cond.methodLink own idx y ∈ TSg ∧ Cond.sameMethod y.cls y.cls y.name y.desc ∈ TSg ∧ Cond.superclass own y.cls ∈ TSg ∧ Cond.instanceMethod y ∈ TSg
theorem J_cUb {Z : GZ} {X : CX} {R : Room} {nL : Nat} {Q : State → Prop} {rc rs pc nx : Nat} {lv : List (Nat × Value)} {st : List Value} {ws : va_W} {cc : ByteArray} {own : String} {rc2 rs2 idx nB nP : Nat} {cb : ByteArray} {w0 : va_W} {K : Option Value → va_W → Prop} {rmB : Room} {As : List Value} {ret : Option FieldType} {x y : MethodName} {ow : String} {b q0 ci : Nat} {fs : List Value} {r : vw_C} (C : Cx Z X cc nL own) (d : dI cc pc (.invokevirtual idx) 3 nx) (Lm : LkU own idx r.1 ow x y) (Ly : YC y cb nB ret nP) (hM : Ct Z (cL X) y cb nB ret rmB (.ref b :: As) w0 K) (hcl : vwCl[ci]? = some r) (hq : w0[q0]? = some (b, .inr (ci, fs))) (wa wb : va_W) (hw : ws = (wa ++ w0) ++ wb) (hlen : As.length = nP) (hroom : rmB.frames + 1 ≤ R.frames ∧ 8 + (nB + 11) + rmB.locals ≤ R.locals) (hst : (st.map fun v => v.category).sum ≤ 8) (hrc : rc = rmB.cells + rc2) (hrs : rs = rmB.slots + rs2) (k : ∀ v w1, K v w1 → Jd Z X R nL Q rc2 rs2 nx lv (v.toList ++ st) ((wa ++ w1) ++ wb)) : Jd Z X R nL Q rc rs pc lv (As.reverse ++ .ref b :: st) ws := by
  obtain ⟨d, rfl⟩ := d
  obtain ⟨g1, g2, g3⟩ := Ly
  obtain ⟨m0, m1, m2, m3, m4, m5, m6, b0, n0, r0, m7⟩ := Lm
  subst hw
  intro ls H locs cells slots hc hs hl hP hD hS
  have hG := good_ts g2
  have hwd := C.2.2.2.2.1
  have cw : va_CU R (cS X) (cA X) own r.1 ow idx x y cb nB ret (Cond.code y cb nB ret :: TSg) rmB rmB.cells rmB.slots nP := by
    refine ⟨⟨rfl, rfl, hroom.1, hroom.2, pay_in hwd hG, List.mem_cons_self⟩, hwd _ g2, hwd _ g1, m1, fun sig h => ?_, hwd _ m2, hwd _ m3, va_Decl.of (hwd _ m6) (hwd _ m7), hwd _ m4, hwd _ m5⟩
    have h2 := g3.2.2
    rw [← m0, h] at h2
    exact (Option.some.inj h2).symm
  have run := va_runU (As := As) (rest := st) (g := F0 (cM X) pc ls (As.reverse ++ .ref b :: st)) (e := cE X) (below := cB X) (meth := cMe X) (locs := locs) (cells := cells) (slots := slots) ⟨C.1, C.2.1, C.2.2.1, C.2.2.2.1, C.2.2.2.2.1⟩ (hM H.size) cw ⟨pc_blind, va_recv C.2.2.2.2.2.1.1 (blk_P hP) hcl hq, bpre C hP hD hS _⟩ rfl hlen hl.1 rfl (lv_room hst) d ⟨by omega, by omega⟩
  exact bend (a := #[]) C hrc hrs hc hs hl hP hD hS rfl run k
theorem J_cSUb {Z : GZ} {X : CX} {R : Room} {nL : Nat} {Q : State → Prop} {rc rs pc nx : Nat} {lv : List (Nat × Value)} {st : List Value} {ws : va_W} {cc : ByteArray} {own : String} {rc2 rs2 idx nB nP : Nat} {cb : ByteArray} {w0 : va_W} {K : Option Value → va_W → Prop} {rmB : Room} {As : List Value} {ret : Option FieldType} {y : MethodName} {b q0 ci : Nat} {fs : List Value} {r : vw_C} (C : Cx Z X cc nL own) (d : dI cc pc (.invokespecial idx) 3 nx) (Lm : LkSU own idx y) (Ly : YC y cb nB ret nP) (hM : Ct Z (cL X) y cb nB ret rmB (.ref b :: As) w0 K) (hcl : vwCl[ci]? = some r) (hq : w0[q0]? = some (b, .inr (ci, fs))) (wa wb : va_W) (hw : ws = (wa ++ w0) ++ wb) (hlen : As.length = nP) (hroom : rmB.frames + 1 ≤ R.frames ∧ 8 + (nB + 11) + rmB.locals ≤ R.locals) (hst : (st.map fun v => v.category).sum ≤ 8) (hrc : rc = rmB.cells + rc2) (hrs : rs = rmB.slots + rs2) (k : ∀ v w1, K v w1 → Jd Z X R nL Q rc2 rs2 nx lv (v.toList ++ st) ((wa ++ w1) ++ wb)) : Jd Z X R nL Q rc rs pc lv (As.reverse ++ .ref b :: st) ws := by
  obtain ⟨d, rfl⟩ := d
  obtain ⟨g1, g2, g3⟩ := Ly
  obtain ⟨m1, m2, m3, m4, m5⟩ := Lm
  subst hw
  intro ls H locs cells slots hc hs hl hP hD hS
  have hG := good_ts g2
  have hwd := C.2.2.2.2.1
  have cw : va_CS R (cS X) (cA X) own idx y cb nB ret (Cond.code y cb nB ret :: TSg) rmB rmB.cells rmB.slots nP := by
    refine ⟨⟨rfl, rfl, hroom.1, hroom.2, pay_in hwd hG, List.mem_cons_self⟩, hwd _ m2, hwd _ m3, hwd _ m4, hwd _ m5, hwd _ g1, hwd _ g2, m1, fun sig h => ?_⟩
    have h2 := g3.2.2
    rw [h] at h2
    exact (Option.some.inj h2).symm
  have run := va_runSU (As := As) (rest := st) (g := F0 (cM X) pc ls (As.reverse ++ .ref b :: st)) (e := cE X) (below := cB X) (meth := cMe X) (locs := locs) (cells := cells) (slots := slots) (C.2.2.2.2.2.1.1.1 ci _ hcl).2 ⟨C.1, C.2.1, C.2.2.1, C.2.2.2.1, C.2.2.2.2.1⟩ (hM H.size) cw ⟨pc_blind, va_recv C.2.2.2.2.2.1.1 (blk_P hP) hcl hq, bpre C hP hD hS _⟩ rfl hlen hl.1 rfl (lv_room hst) d ⟨by omega, by omega⟩
  exact bend (a := #[]) C hrc hrs hc hs hl hP hD hS rfl run k
/-- a call on a constant text -/
theorem J_cVCb {Z : GZ} {X : CX} {R : Room} {nL : Nat} {Q : State → Prop} {rc rs pc nx : Nat} {lv : List (Nat × Value)} {st : List Value} {ws : va_W} {cc : ByteArray} {own : String} {rc2 rs2 idx nB nP : Nat} {cb : ByteArray} {w0 : va_W} {K : Option Value → va_W → Prop} {rmB : Room} {As : List Value} {ret : Option FieldType} {y : MethodName} {i : Nat} (C : Cx Z X cc nL own) (d : dI cc pc (.invokevirtual idx) 3 nx) (Lm : LkM own idx y) (Ly : YC y cb nB ret nP) (Lv : YV y) (hM : Ct Z (cL X) y cb nB ret rmB (.ref (zsk Z i) :: As) w0 K) (hi : i < 43) (hr : y.cls = "java/lang/String") (wa wb : va_W) (hw : ws = (wa ++ w0) ++ wb) (hlen : As.length = nP) (hroom : rmB.frames + 1 ≤ R.frames ∧ 8 + (nB + 11) + rmB.locals ≤ R.locals) (hst : (st.map fun v => v.category).sum ≤ 8) (hrc : rc = rmB.cells + rc2) (hrs : rs = rmB.slots + rs2) (k : ∀ v w1, K v w1 → Jd Z X R nL Q rc2 rs2 nx lv (v.toList ++ st) ((wa ++ w1) ++ wb)) : Jd Z X R nL Q rc rs pc lv (As.reverse ++ .ref (zsk Z i) :: st) ws := by
  obtain ⟨d, rfl⟩ := d
  obtain ⟨g1, g2, g3⟩ := Ly
  subst hw
  intro ls H locs cells slots hc hs hl hP hD hS
  have run := va_runV (As := As) (rest := st) (g := F0 (cM X) pc ls (As.reverse ++ .ref (zsk Z i) :: st)) (e := cE X) (below := cB X) (meth := cMe X) (locs := locs) (cells := cells) (slots := slots) ⟨C.1, C.2.1, C.2.2.1, C.2.2.2.1, C.2.2.2.2.1⟩ (hM H.size) (C := y.cls) ⟨callB_of nP C.2.2.2.2.1 (good_ts g2) rfl rfl rfl (C.2.2.2.2.1 _ g1) (C.2.2.2.2.1 _ Lm) g3 hroom, C.2.2.2.2.1 _ Lv.1, C.2.2.2.2.1 _ Lv.2⟩ ⟨pc_blind, hr ▸ va_Orecv (C.2.2.2.2.2.2.1.2.2.2.2.2.2.1 i hi).1 hS, bpre C hP hD hS _⟩ rfl hlen hl.1 rfl (lv_room hst) d ⟨by omega, by omega⟩
  exact bend (a := #[]) C hrc hrs hc hs hl hP hD hS rfl run k
