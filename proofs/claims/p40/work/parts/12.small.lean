def b2i (b : Bool) : Int32 := if b then 1 else 0
theorem b2i_eq0 {b : Bool} : b2i b = 0 ↔ b = false := by cases b <;> simp [b2i]
theorem b2i_ne0 {b : Bool} : ¬ b2i b = 0 ↔ b = true := by cases b <;> simp [b2i]
theorem b2i_t : b2i true = 1 := rfl
theorem b2i_f : b2i false = 0 := rfl
theorem nb_b2i {b : Bool} : narrow .boolean (.int (b2i b)) = .int (b2i b) := by cases b <;> rfl
theorem J_ifeqb {Z : GZ} {X : CX} {R : Room} {nL : Nat} {Q : State → Prop} {rc rs pc nx : Nat} {lv : List (Nat × Value)} {st : List Value} {ws : va_W} {cc : ByteArray} {own : String} {b : Bool} {off : Int} (tgt : Nat) (C : Cx Z X cc nL own) (d : dI cc pc (.ifCond .eq off) 3 nx) (ht : (pc : Int) + off = (tgt : Int)) (kt : b = false → Jd Z X R nL Q rc rs tgt lv st ws) (kf : b = true → Jd Z X R nL Q rc rs nx lv st ws) : Jd Z X R nL Q rc rs pc lv (.int (b2i b) :: st) ws :=
  J_ifeq tgt C d ht (fun h => kt (by cases b <;> simp_all [b2i])) (fun h => kf (by cases b <;> simp_all [b2i]))
theorem J_ifneb {Z : GZ} {X : CX} {R : Room} {nL : Nat} {Q : State → Prop} {rc rs pc nx : Nat} {lv : List (Nat × Value)} {st : List Value} {ws : va_W} {cc : ByteArray} {own : String} {b : Bool} {off : Int} (tgt : Nat) (C : Cx Z X cc nL own) (d : dI cc pc (.ifCond .ne off) 3 nx) (ht : (pc : Int) + off = (tgt : Int)) (kt : b = true → Jd Z X R nL Q rc rs tgt lv st ws) (kf : b = false → Jd Z X R nL Q rc rs nx lv st ws) : Jd Z X R nL Q rc rs pc lv (.int (b2i b) :: st) ws :=
  J_ifne tgt C d ht (fun h => kt (by cases b <;> simp_all [b2i])) (fun h => kf (by cases b <;> simp_all [b2i]))
theorem i64_tri (x y : Int64) : x < y ∨ x = y ∨ y < x := by
  rcases Int.lt_trichotomy x.toInt y.toInt with h | h | h
  · exact Or.inl (Int64.lt_iff_toInt_lt.mpr h)
  · exact Or.inr (Or.inl (Int64.toInt_inj.mp h))
  · exact Or.inr (Or.inr (Int64.lt_iff_toInt_lt.mpr h))
theorem lgc_eq {x y : Int64} : lg_cmp x y = 0 ↔ x = y := by
  unfold lg_cmp
  rcases i64_tri x y with h | h | h
  · have h2 : ¬ y < x := Int64.lt_asymm h
    have h3 : x ≠ y := Int64.ne_of_lt h
    simp [h, h2, h3]
  · subst h
    simp [Int64.lt_irrefl]
  · have h2 : ¬ x < y := Int64.lt_asymm h
    have h3 : x ≠ y := (Int64.ne_of_lt h).symm
    simp [h, h2, h3]
theorem lgc_le {x y : Int64} : lg_cmp x y ≤ 0 ↔ x ≤ y := by
  unfold lg_cmp
  rcases i64_tri x y with h | h | h
  · have h2 : ¬ y < x := Int64.lt_asymm h
    have h3 : x ≠ y := Int64.ne_of_lt h
    simp [h2, h3, Int64.le_of_lt h]
  · subst h
    simp [Int64.lt_irrefl]
  · have h2 : ¬ x < y := Int64.lt_asymm h
    have h3 : ¬ x ≤ y := Int64.not_le.mpr h
    simp [h, h2, h3]
theorem J_ifeqL {Z : GZ} {X : CX} {R : Room} {nL : Nat} {Q : State → Prop} {rc rs pc nx : Nat} {lv : List (Nat × Value)} {st : List Value} {ws : va_W} {cc : ByteArray} {own : String} {x y : Int64} {off : Int} (tgt : Nat) (C : Cx Z X cc nL own) (d : dI cc pc (.ifCond .eq off) 3 nx) (ht : (pc : Int) + off = (tgt : Int)) (kt : x = y → Jd Z X R nL Q rc rs tgt lv st ws) (kf : ¬ x = y → Jd Z X R nL Q rc rs nx lv st ws) : Jd Z X R nL Q rc rs pc lv (.int (lg_cmp x y) :: st) ws :=
  J_ifeq tgt C d ht (fun h => kt (lgc_eq.mp h)) (fun h => kf (fun e => h (lgc_eq.mpr e)))
theorem J_ifneL {Z : GZ} {X : CX} {R : Room} {nL : Nat} {Q : State → Prop} {rc rs pc nx : Nat} {lv : List (Nat × Value)} {st : List Value} {ws : va_W} {cc : ByteArray} {own : String} {x y : Int64} {off : Int} (tgt : Nat) (C : Cx Z X cc nL own) (d : dI cc pc (.ifCond .ne off) 3 nx) (ht : (pc : Int) + off = (tgt : Int)) (kt : ¬ x = y → Jd Z X R nL Q rc rs tgt lv st ws) (kf : x = y → Jd Z X R nL Q rc rs nx lv st ws) : Jd Z X R nL Q rc rs pc lv (.int (lg_cmp x y) :: st) ws :=
  J_ifne tgt C d ht (fun h => kt (fun e => h (lgc_eq.mpr e))) (fun h => kf (lgc_eq.mp h))
theorem J_ifleL {Z : GZ} {X : CX} {R : Room} {nL : Nat} {Q : State → Prop} {rc rs pc nx : Nat} {lv : List (Nat × Value)} {st : List Value} {ws : va_W} {cc : ByteArray} {own : String} {x y : Int64} {off : Int} (tgt : Nat) (C : Cx Z X cc nL own) (d : dI cc pc (.ifCond .le off) 3 nx) (ht : (pc : Int) + off = (tgt : Int)) (kt : x ≤ y → Jd Z X R nL Q rc rs tgt lv st ws) (kf : ¬ x ≤ y → Jd Z X R nL Q rc rs nx lv st ws) : Jd Z X R nL Q rc rs pc lv (.int (lg_cmp x y) :: st) ws :=
  J_ifle tgt C d ht (fun h => kt (lgc_le.mp h)) (fun h => kf (fun e => h (lgc_le.mpr e)))
theorem J_lvm {Z : GZ} {X : CX} {R : Room} {nL : Nat} {Q : State → Prop} {rc rs pc : Nat} {lv : List (Nat × Value)} {st : List Value} {ws : va_W} (lv2 : List (Nat × Value)) (h : lv2.map (fun q => lv.lookup q.1) = lv2.map (fun q => some q.2)) (k : Jd Z X R nL Q rc rs pc lv2 st ws) : Jd Z X R nL Q rc rs pc lv st ws :=
  J_lv lv2 (List.map_inj_left.mp h) k
theorem vin {x : Int32} {n : Nat} (h0 : ¬ x < 0) (h : x.toNatClampNeg < n) : vp_in x n := fun q => q.elim h0 (fun q => absurd h (by omega))
theorem vinI {x : Int32} {n : Nat} (h0 : 0 ≤ x.toInt) (h : x.toInt < n) : vp_in x n := vp_in_iff.mpr ⟨h0, h⟩
theorem ma_abs_1 : Cond.static Lib.Math.abs.name ∈ TSg := tsg_in (i := 534) (by decide +kernel) rfl
theorem ma_abs_2 : Cond.code Lib.Math.abs.name Lib.Math.abs.code 1 (some .int) ∈ TSg := tsg_in (i := 535) (by decide +kernel) rfl
theorem ma_imax_1 : Cond.static Lib.Math.max.name ∈ TSg := tsg_in (i := 639) (by decide +kernel) rfl
theorem ma_imax_2 : Cond.code Lib.Math.max.name Lib.Math.max.code 2 (some .int) ∈ TSg := tsg_in (i := 640) (by decide +kernel) rfl
theorem ma_imin_1 : Cond.static Lib.Math.min.name ∈ TSg := tsg_in (i := 668) (by decide +kernel) rfl
theorem ma_imin_2 : Cond.code Lib.Math.min.name Lib.Math.min.code 2 (some .int) ∈ TSg := tsg_in (i := 669) (by decide +kernel) rfl
theorem ma_lmax_1 : Cond.static Lib.MathLoose.max_long.x ∈ TSg := tsg_in (i := 681) (by decide +kernel) rfl
theorem ma_lmax_2 : Cond.code Lib.MathLoose.max_long.x Lib.MathLoose.max_long.code 4 (some .long) ∈ TSg := tsg_in (i := 682) (by decide +kernel) rfl
theorem ma_lmin_1 : Cond.static Lib.MathLoose.min_long.x ∈ TSg := tsg_in (i := 678) (by decide +kernel) rfl
theorem ma_lmin_2 : Cond.code Lib.MathLoose.min_long.x Lib.MathLoose.min_long.code 4 (some .long) ∈ TSg := tsg_in (i := 679) (by decide +kernel) rfl
theorem ma_i : Cond.initialized "java/lang/Math" ∈ TSg := tsg_in (i := 50) (by decide +kernel) rfl
theorem ac_1 : Cond.native arraycopyName ∈ TSg := tsg_in (i := 694) (by decide +kernel) rfl
theorem ac_2 : Cond.static arraycopyName ∈ TSg := tsg_in (i := 693) (by decide +kernel) rfl
theorem ac_3 : Cond.initialized "java/lang/System" ∈ TSg := tsg_in (i := 52) (by decide +kernel) rfl
theorem oi_1 : Cond.instanceMethod objectInit ∈ TSg := tsg_in (i := 69) (by decide +kernel) rfl
theorem oi_2 : Cond.code objectInit ⟨#[0xb1]⟩ 1 none ∈ TSg := tsg_in (i := 70) (by decide +kernel) rfl
theorem J_cSp {Z : GZ} {X : CX} {R : Room} {nL : Nat} {Q : State → Prop} {rc rs pc nx : Nat} {lv : List (Nat × Value)} {st : List Value} {ws : va_W} {cc : ByteArray} {own : String} {idx nB nP : Nat} {y : MethodName} {cb : ByteArray} {P0 : Option Value → Prop} {rmB : Room} {As : List Value} {ret : Option FieldType} (C : Cx Z X cc nL own) (d : dI cc pc (.invokestatic idx) 3 nx) (Lm : LkM own idx y) (Ly : YC y cb nB ret nP) (Ls : YS y) (hM : Ct Z (cL X) y cb nB ret rmB As [] (fun v w1 => P0 v ∧ w1 = [])) (hlen : As.length = nP) (hroom : rmB.frames + 1 ≤ R.frames ∧ 8 + (nB + 11) + rmB.locals ≤ R.locals) (hst : (st.map fun v => v.category).sum ≤ 8) (hz : rmB.cells = 0 ∧ rmB.slots = 0) (k : ∀ v, P0 v → Jd Z X R nL Q rc rs nx lv (v.toList ++ st) ws) : Jd Z X R nL Q rc rs pc lv (As.reverse ++ st) ws := by
  refine J_cSb C d Lm Ly Ls hM ws [] (by simp) hlen hroom hst (rc2 := rc) (rs2 := rs) (by omega) (by omega) ?_
  rintro v w1 ⟨h, rfl⟩
  have e : (((ws ++ []) ++ []) : va_W) = ws := by simp
  rw [e]
  exact k v h
theorem J_cSNp {Z : GZ} {X : CX} {R : Room} {nL : Nat} {Q : State → Prop} {rc rs pc nx : Nat} {lv : List (Nat × Value)} {st : List Value} {ws : va_W} {cc : ByteArray} {own : String} {idx nB nP : Nat} {y : MethodName} {cb : ByteArray} {P0 : Option Value → Prop} {rmB : Room} {As : List Value} {ret : Option FieldType} (C : Cx Z X cc nL own) (d : dI cc pc (.invokestatic idx) 3 nx) (Lm : LkN own idx y) (Ly : YC y cb nB ret nP) (Ls : YS y) (hM : Ct Z (cL X) y cb nB ret rmB As [] (fun v w1 => P0 v ∧ w1 = [])) (hlen : As.length = nP) (hroom : rmB.frames + 1 ≤ R.frames ∧ 8 + (nB + 11) + rmB.locals ≤ R.locals) (hst : (st.map fun v => v.category).sum ≤ 8) (hz : rmB.cells = 0 ∧ rmB.slots = 0) (k : ∀ v, P0 v → Jd Z X R nL Q rc rs nx lv (v.toList ++ st) ws) : Jd Z X R nL Q rc rs pc lv (As.reverse ++ st) ws := by
  refine J_cSNb C d Lm Ly Ls hM ws [] (by simp) hlen hroom hst (rc2 := rc) (rs2 := rs) (by omega) (by omega) ?_
  rintro v w1 ⟨h, rfl⟩
  have e : (((ws ++ []) ++ []) : va_W) = ws := by simp
  rw [e]
  exact k v h
theorem arrV_congr {cI : ClassId} {N : Nat} {f g : Nat → Value} (h : ∀ i, i < N → f i = g i) : arrV cI N f = arrV cI N g := by
  unfold arrV
  congr 2
  funext j
  exact h j.1 j.2
theorem cpy_all {f g : Nat → Int32} {n i : Nat} (h : i < n) : va_cpy f g 0 0 n i = f i := by simp [va_cpy, h]
/-- an int row may be named by any function that agrees with it on its places -/
theorem J_rowI {Z : GZ} {X : CX} {R : Room} {nL : Nat} {Q : State → Prop} {rc rs pc : Nat} {lv : List (Nat × Value)} {st : List Value} {ws : va_W} (q0 : Nat) {a n t0 : Nat} {f g : Nat → Int32} (ws2 : va_W) (he : ws[q0]? = some (a, .inl (zA Z t0, n, .inl f))) (hfg : ∀ i, i < n → f i = g i) (h2 : ws.set q0 (a, .inl (zA Z t0, n, .inl g)) = ws2) (k : Jd Z X R nL Q rc rs pc lv st ws2) : Jd Z X R nL Q rc rs pc lv st ws := by
  subst h2
  intro ls H locs cells slots hc hs hl hP hD hS
  refine k ls H locs cells slots hc hs hl ?_ (hD.set he) hS
  intro k1 q hq
  by_cases e : q0 = k1
  · subst e
    rw [List.getElem?_set_self (List.getElem?_eq_some_iff.mp he).1] at hq
    cases hq
    have h1 := hP q0 _ he
    show H[a]? = some (vp_cell (zA Z t0) (n, .inl g))
    have e2 : vp_cell (zA Z t0) (n, .inl g) = vp_cell (zA Z t0) (n, .inl f) := by
      rw [vp_cell_i, vp_cell_i]
      exact arrV_congr (fun i hi => by rw [hfg i hi])
    rw [e2]
    exact h1
  · rw [List.getElem?_set_ne e] at hq
    exact hP k1 q hq
