theorem fm_of {α β : Type} {f : α → Option β} {l : List α} {w : List β} (h : l.map f = w.map some) : l.filterMap f = w := by
  have e : (l.map f).filterMap id = (w.map some).filterMap id := by rw [h]
  simpa using e
theorem J_iconst {Z : GZ} {X : CX} {R : Room} {nL : Nat} {Q : State → Prop} {rc rs pc nx : Nat} {lv : List (Nat × Value)} {st : List Value} {ws : va_W} {cc : ByteArray} {own : String} {n : Int} (v : Int32) (C : Cx Z X cc nL own) (d : dI cc pc (.iconst n) 1 nx) (hv : Int32.ofInt n = v) (k : Jd Z X R nL Q rc rs nx lv (.int v :: st) ws) : Jd Z X R nL Q rc rs pc lv (st) ws := by
  obtain ⟨d, rfl⟩ := d
  intro ls H locs cells slots hc hs hl hP hD hS
  exact lv_iconst C.1 C.2.1 d hv (k ls H locs cells slots hc hs hl hP hD hS)
theorem J_bipush {Z : GZ} {X : CX} {R : Room} {nL : Nat} {Q : State → Prop} {rc rs pc nx : Nat} {lv : List (Nat × Value)} {st : List Value} {ws : va_W} {cc : ByteArray} {own : String} {n : Int} (v : Int32) (C : Cx Z X cc nL own) (d : dI cc pc (.bipush n) 2 nx) (hv : (Int8.ofInt n).toInt32 = v) (k : Jd Z X R nL Q rc rs nx lv (.int v :: st) ws) : Jd Z X R nL Q rc rs pc lv (st) ws := by
  obtain ⟨d, rfl⟩ := d
  intro ls H locs cells slots hc hs hl hP hD hS
  exact lv_bipush C.1 C.2.1 d hv (k ls H locs cells slots hc hs hl hP hD hS)
theorem J_sipush {Z : GZ} {X : CX} {R : Room} {nL : Nat} {Q : State → Prop} {rc rs pc nx : Nat} {lv : List (Nat × Value)} {st : List Value} {ws : va_W} {cc : ByteArray} {own : String} {n : Int} (v : Int32) (C : Cx Z X cc nL own) (d : dI cc pc (.sipush n) 3 nx) (hv : (Int16.ofInt n).toInt32 = v) (k : Jd Z X R nL Q rc rs nx lv (.int v :: st) ws) : Jd Z X R nL Q rc rs pc lv (st) ws := by
  obtain ⟨d, rfl⟩ := d
  intro ls H locs cells slots hc hs hl hP hD hS
  exact lv_sipush C.1 C.2.1 d hv (k ls H locs cells slots hc hs hl hP hD hS)
theorem J_lconst {Z : GZ} {X : CX} {R : Room} {nL : Nat} {Q : State → Prop} {rc rs pc nx : Nat} {lv : List (Nat × Value)} {st : List Value} {ws : va_W} {cc : ByteArray} {own : String} {n : Fin 2} (v : Int64) (C : Cx Z X cc nL own) (d : dI cc pc (.lconst n) 1 nx) (hv : Int64.ofNat (n : Nat) = v) (k : Jd Z X R nL Q rc rs nx lv (.long v :: st) ws) : Jd Z X R nL Q rc rs pc lv (st) ws := by
  obtain ⟨d, rfl⟩ := d
  intro ls H locs cells slots hc hs hl hP hD hS
  exact lv_lconst C.1 C.2.1 d hv (k ls H locs cells slots hc hs hl hP hD hS)
theorem J_null {Z : GZ} {X : CX} {R : Room} {nL : Nat} {Q : State → Prop} {rc rs pc nx : Nat} {lv : List (Nat × Value)} {st : List Value} {ws : va_W} {cc : ByteArray} {own : String}  (C : Cx Z X cc nL own) (d : dI cc pc (.aconst_null) 1 nx)  (k : Jd Z X R nL Q rc rs nx lv (.null :: st) ws) : Jd Z X R nL Q rc rs pc lv (st) ws := by
  obtain ⟨d, rfl⟩ := d
  intro ls H locs cells slots hc hs hl hP hD hS
  exact lv_null C.1 C.2.1 d  (k ls H locs cells slots hc hs hl hP hD hS)
theorem J_iadd {Z : GZ} {X : CX} {R : Room} {nL : Nat} {Q : State → Prop} {rc rs pc nx : Nat} {lv : List (Nat × Value)} {st : List Value} {ws : va_W} {cc : ByteArray} {own : String} {x y : Int32} (C : Cx Z X cc nL own) (d : dI cc pc (.iadd) 1 nx)  (k : Jd Z X R nL Q rc rs nx lv (.int (x + y) :: st) ws) : Jd Z X R nL Q rc rs pc lv (.int y :: .int x :: st) ws := by
  obtain ⟨d, rfl⟩ := d
  intro ls H locs cells slots hc hs hl hP hD hS
  exact lv_iadd C.1 C.2.1 d  (k ls H locs cells slots hc hs hl hP hD hS)
theorem J_isub {Z : GZ} {X : CX} {R : Room} {nL : Nat} {Q : State → Prop} {rc rs pc nx : Nat} {lv : List (Nat × Value)} {st : List Value} {ws : va_W} {cc : ByteArray} {own : String} {x y : Int32} (C : Cx Z X cc nL own) (d : dI cc pc (.isub) 1 nx)  (k : Jd Z X R nL Q rc rs nx lv (.int (x - y) :: st) ws) : Jd Z X R nL Q rc rs pc lv (.int y :: .int x :: st) ws := by
  obtain ⟨d, rfl⟩ := d
  intro ls H locs cells slots hc hs hl hP hD hS
  exact lv_isub C.1 C.2.1 d  (k ls H locs cells slots hc hs hl hP hD hS)
theorem J_imul {Z : GZ} {X : CX} {R : Room} {nL : Nat} {Q : State → Prop} {rc rs pc nx : Nat} {lv : List (Nat × Value)} {st : List Value} {ws : va_W} {cc : ByteArray} {own : String} {x y : Int32} (C : Cx Z X cc nL own) (d : dI cc pc (.imul) 1 nx)  (k : Jd Z X R nL Q rc rs nx lv (.int (x * y) :: st) ws) : Jd Z X R nL Q rc rs pc lv (.int y :: .int x :: st) ws := by
  obtain ⟨d, rfl⟩ := d
  intro ls H locs cells slots hc hs hl hP hD hS
  exact lv_imul C.1 C.2.1 d  (k ls H locs cells slots hc hs hl hP hD hS)
theorem J_iand {Z : GZ} {X : CX} {R : Room} {nL : Nat} {Q : State → Prop} {rc rs pc nx : Nat} {lv : List (Nat × Value)} {st : List Value} {ws : va_W} {cc : ByteArray} {own : String} {x y : Int32} (C : Cx Z X cc nL own) (d : dI cc pc (.iand) 1 nx)  (k : Jd Z X R nL Q rc rs nx lv (.int (x &&& y) :: st) ws) : Jd Z X R nL Q rc rs pc lv (.int y :: .int x :: st) ws := by
  obtain ⟨d, rfl⟩ := d
  intro ls H locs cells slots hc hs hl hP hD hS
  exact lv_iand C.1 C.2.1 d  (k ls H locs cells slots hc hs hl hP hD hS)
theorem J_ior {Z : GZ} {X : CX} {R : Room} {nL : Nat} {Q : State → Prop} {rc rs pc nx : Nat} {lv : List (Nat × Value)} {st : List Value} {ws : va_W} {cc : ByteArray} {own : String} {x y : Int32} (C : Cx Z X cc nL own) (d : dI cc pc (.ior) 1 nx)  (k : Jd Z X R nL Q rc rs nx lv (.int (x ||| y) :: st) ws) : Jd Z X R nL Q rc rs pc lv (.int y :: .int x :: st) ws := by
  obtain ⟨d, rfl⟩ := d
  intro ls H locs cells slots hc hs hl hP hD hS
  exact lv_ior C.1 C.2.1 d  (k ls H locs cells slots hc hs hl hP hD hS)
theorem J_ixor {Z : GZ} {X : CX} {R : Room} {nL : Nat} {Q : State → Prop} {rc rs pc nx : Nat} {lv : List (Nat × Value)} {st : List Value} {ws : va_W} {cc : ByteArray} {own : String} {x y : Int32} (C : Cx Z X cc nL own) (d : dI cc pc (.ixor) 1 nx)  (k : Jd Z X R nL Q rc rs nx lv (.int (x ^^^ y) :: st) ws) : Jd Z X R nL Q rc rs pc lv (.int y :: .int x :: st) ws := by
  obtain ⟨d, rfl⟩ := d
  intro ls H locs cells slots hc hs hl hP hD hS
  exact lv_ixor C.1 C.2.1 d  (k ls H locs cells slots hc hs hl hP hD hS)
theorem J_ladd {Z : GZ} {X : CX} {R : Room} {nL : Nat} {Q : State → Prop} {rc rs pc nx : Nat} {lv : List (Nat × Value)} {st : List Value} {ws : va_W} {cc : ByteArray} {own : String} {x y : Int64} (C : Cx Z X cc nL own) (d : dI cc pc (.ladd) 1 nx)  (k : Jd Z X R nL Q rc rs nx lv (.long (x + y) :: st) ws) : Jd Z X R nL Q rc rs pc lv (.long y :: .long x :: st) ws := by
  obtain ⟨d, rfl⟩ := d
  intro ls H locs cells slots hc hs hl hP hD hS
  exact lv_ladd C.1 C.2.1 d  (k ls H locs cells slots hc hs hl hP hD hS)
theorem J_lsub {Z : GZ} {X : CX} {R : Room} {nL : Nat} {Q : State → Prop} {rc rs pc nx : Nat} {lv : List (Nat × Value)} {st : List Value} {ws : va_W} {cc : ByteArray} {own : String} {x y : Int64} (C : Cx Z X cc nL own) (d : dI cc pc (.lsub) 1 nx)  (k : Jd Z X R nL Q rc rs nx lv (.long (x - y) :: st) ws) : Jd Z X R nL Q rc rs pc lv (.long y :: .long x :: st) ws := by
  obtain ⟨d, rfl⟩ := d
  intro ls H locs cells slots hc hs hl hP hD hS
  exact lv_lsub C.1 C.2.1 d  (k ls H locs cells slots hc hs hl hP hD hS)
theorem J_lmul {Z : GZ} {X : CX} {R : Room} {nL : Nat} {Q : State → Prop} {rc rs pc nx : Nat} {lv : List (Nat × Value)} {st : List Value} {ws : va_W} {cc : ByteArray} {own : String} {x y : Int64} (C : Cx Z X cc nL own) (d : dI cc pc (.lmul) 1 nx)  (k : Jd Z X R nL Q rc rs nx lv (.long (x * y) :: st) ws) : Jd Z X R nL Q rc rs pc lv (.long y :: .long x :: st) ws := by
  obtain ⟨d, rfl⟩ := d
  intro ls H locs cells slots hc hs hl hP hD hS
  exact lv_lmul C.1 C.2.1 d  (k ls H locs cells slots hc hs hl hP hD hS)
theorem J_idiv {Z : GZ} {X : CX} {R : Room} {nL : Nat} {Q : State → Prop} {rc rs pc nx : Nat} {lv : List (Nat × Value)} {st : List Value} {ws : va_W} {cc : ByteArray} {own : String} {x y : Int32} (C : Cx Z X cc nL own) (d : dI cc pc (.idiv) 1 nx) (hn : ¬ y = 0) (k : Jd Z X R nL Q rc rs nx lv (.int (x / y) :: st) ws) : Jd Z X R nL Q rc rs pc lv (.int y :: .int x :: st) ws := by
  obtain ⟨d, rfl⟩ := d
  intro ls H locs cells slots hc hs hl hP hD hS
  exact lv_idiv C.1 C.2.1 d hn (k ls H locs cells slots hc hs hl hP hD hS)
theorem J_irem {Z : GZ} {X : CX} {R : Room} {nL : Nat} {Q : State → Prop} {rc rs pc nx : Nat} {lv : List (Nat × Value)} {st : List Value} {ws : va_W} {cc : ByteArray} {own : String} {x y : Int32} (C : Cx Z X cc nL own) (d : dI cc pc (.irem) 1 nx) (hn : ¬ y = 0) (k : Jd Z X R nL Q rc rs nx lv (.int (x - x / y * y) :: st) ws) : Jd Z X R nL Q rc rs pc lv (.int y :: .int x :: st) ws := by
  obtain ⟨d, rfl⟩ := d
  intro ls H locs cells slots hc hs hl hP hD hS
  exact lv_irem C.1 C.2.1 d hn (k ls H locs cells slots hc hs hl hP hD hS)
theorem J_ineg {Z : GZ} {X : CX} {R : Room} {nL : Nat} {Q : State → Prop} {rc rs pc nx : Nat} {lv : List (Nat × Value)} {st : List Value} {ws : va_W} {cc : ByteArray} {own : String} {x : Int32} (C : Cx Z X cc nL own) (d : dI cc pc (.ineg) 1 nx)  (k : Jd Z X R nL Q rc rs nx lv (.int (-x) :: st) ws) : Jd Z X R nL Q rc rs pc lv (.int x :: st) ws := by
  obtain ⟨d, rfl⟩ := d
  intro ls H locs cells slots hc hs hl hP hD hS
  exact lv_ineg C.1 C.2.1 d  (k ls H locs cells slots hc hs hl hP hD hS)
theorem J_ishl {Z : GZ} {X : CX} {R : Room} {nL : Nat} {Q : State → Prop} {rc rs pc nx : Nat} {lv : List (Nat × Value)} {st : List Value} {ws : va_W} {cc : ByteArray} {own : String} {x y : Int32} (C : Cx Z X cc nL own) (d : dI cc pc (.ishl) 1 nx)  (k : Jd Z X R nL Q rc rs nx lv (.int (x <<< (y &&& 31)) :: st) ws) : Jd Z X R nL Q rc rs pc lv (.int y :: .int x :: st) ws := by
  obtain ⟨d, rfl⟩ := d
  intro ls H locs cells slots hc hs hl hP hD hS
  exact lv_ishl C.1 C.2.1 d  (k ls H locs cells slots hc hs hl hP hD hS)
theorem J_ishr {Z : GZ} {X : CX} {R : Room} {nL : Nat} {Q : State → Prop} {rc rs pc nx : Nat} {lv : List (Nat × Value)} {st : List Value} {ws : va_W} {cc : ByteArray} {own : String} {x y : Int32} (C : Cx Z X cc nL own) (d : dI cc pc (.ishr) 1 nx)  (k : Jd Z X R nL Q rc rs nx lv (.int (x >>> (y &&& 31)) :: st) ws) : Jd Z X R nL Q rc rs pc lv (.int y :: .int x :: st) ws := by
  obtain ⟨d, rfl⟩ := d
  intro ls H locs cells slots hc hs hl hP hD hS
  exact lv_ishr C.1 C.2.1 d  (k ls H locs cells slots hc hs hl hP hD hS)
theorem J_iushr {Z : GZ} {X : CX} {R : Room} {nL : Nat} {Q : State → Prop} {rc rs pc nx : Nat} {lv : List (Nat × Value)} {st : List Value} {ws : va_W} {cc : ByteArray} {own : String} {x y : Int32} (C : Cx Z X cc nL own) (d : dI cc pc (.iushr) 1 nx)  (k : Jd Z X R nL Q rc rs nx lv (.int ((x.toUInt32 >>> (y.toUInt32 &&& Int32.toUInt32 31)).toInt32) :: st) ws) : Jd Z X R nL Q rc rs pc lv (.int y :: .int x :: st) ws := by
  obtain ⟨d, rfl⟩ := d
  intro ls H locs cells slots hc hs hl hP hD hS
  exact lv_iushr C.1 C.2.1 d rfl (k ls H locs cells slots hc hs hl hP hD hS)
theorem J_i2l {Z : GZ} {X : CX} {R : Room} {nL : Nat} {Q : State → Prop} {rc rs pc nx : Nat} {lv : List (Nat × Value)} {st : List Value} {ws : va_W} {cc : ByteArray} {own : String} {x : Int32} (C : Cx Z X cc nL own) (d : dI cc pc (.i2l) 1 nx)  (k : Jd Z X R nL Q rc rs nx lv (.long x.toInt64 :: st) ws) : Jd Z X R nL Q rc rs pc lv (.int x :: st) ws := by
  obtain ⟨d, rfl⟩ := d
  intro ls H locs cells slots hc hs hl hP hD hS
  exact lv_i2l C.1 C.2.1 d rfl (k ls H locs cells slots hc hs hl hP hD hS)
theorem J_l2i {Z : GZ} {X : CX} {R : Room} {nL : Nat} {Q : State → Prop} {rc rs pc nx : Nat} {lv : List (Nat × Value)} {st : List Value} {ws : va_W} {cc : ByteArray} {own : String} {x : Int64} (C : Cx Z X cc nL own) (d : dI cc pc (.l2i) 1 nx)  (k : Jd Z X R nL Q rc rs nx lv (.int x.toInt32 :: st) ws) : Jd Z X R nL Q rc rs pc lv (.long x :: st) ws := by
  obtain ⟨d, rfl⟩ := d
  intro ls H locs cells slots hc hs hl hP hD hS
  exact lv_l2i C.1 C.2.1 d rfl (k ls H locs cells slots hc hs hl hP hD hS)
theorem J_i2b {Z : GZ} {X : CX} {R : Room} {nL : Nat} {Q : State → Prop} {rc rs pc nx : Nat} {lv : List (Nat × Value)} {st : List Value} {ws : va_W} {cc : ByteArray} {own : String} {x : Int32} (C : Cx Z X cc nL own) (d : dI cc pc (.i2b) 1 nx)  (k : Jd Z X R nL Q rc rs nx lv (.int x.toInt8.toInt32 :: st) ws) : Jd Z X R nL Q rc rs pc lv (.int x :: st) ws := by
  obtain ⟨d, rfl⟩ := d
  intro ls H locs cells slots hc hs hl hP hD hS
  exact lv_i2b C.1 C.2.1 d rfl (k ls H locs cells slots hc hs hl hP hD hS)
theorem J_i2c {Z : GZ} {X : CX} {R : Room} {nL : Nat} {Q : State → Prop} {rc rs pc nx : Nat} {lv : List (Nat × Value)} {st : List Value} {ws : va_W} {cc : ByteArray} {own : String} {x : Int32} (C : Cx Z X cc nL own) (d : dI cc pc (.i2c) 1 nx)  (k : Jd Z X R nL Q rc rs nx lv (.int (x.toUInt32 % 65536).toInt32 :: st) ws) : Jd Z X R nL Q rc rs pc lv (.int x :: st) ws := by
  obtain ⟨d, rfl⟩ := d
  intro ls H locs cells slots hc hs hl hP hD hS
  exact lv_i2c C.1 C.2.1 d rfl (k ls H locs cells slots hc hs hl hP hD hS)
theorem J_dup {Z : GZ} {X : CX} {R : Room} {nL : Nat} {Q : State → Prop} {rc rs pc nx : Nat} {lv : List (Nat × Value)} {st : List Value} {ws : va_W} {cc : ByteArray} {own : String} {va : Value} (C : Cx Z X cc nL own) (d : dI cc pc (.dup) 1 nx) (h : va.category = 1) (k : Jd Z X R nL Q rc rs nx lv (va :: va :: st) ws) : Jd Z X R nL Q rc rs pc lv (va :: st) ws := by
  obtain ⟨d, rfl⟩ := d
  intro ls H locs cells slots hc hs hl hP hD hS
  exact lv_dup C.1 C.2.1 d h (k ls H locs cells slots hc hs hl hP hD hS)
theorem J_pop {Z : GZ} {X : CX} {R : Room} {nL : Nat} {Q : State → Prop} {rc rs pc nx : Nat} {lv : List (Nat × Value)} {st : List Value} {ws : va_W} {cc : ByteArray} {own : String} {va : Value} (C : Cx Z X cc nL own) (d : dI cc pc (.pop) 1 nx) (h : va.category = 1) (k : Jd Z X R nL Q rc rs nx lv (st) ws) : Jd Z X R nL Q rc rs pc lv (va :: st) ws := by
  obtain ⟨d, rfl⟩ := d
  intro ls H locs cells slots hc hs hl hP hD hS
  exact lv_pop C.1 C.2.1 d h (k ls H locs cells slots hc hs hl hP hD hS)
theorem J_pop2 {Z : GZ} {X : CX} {R : Room} {nL : Nat} {Q : State → Prop} {rc rs pc nx : Nat} {lv : List (Nat × Value)} {st : List Value} {ws : va_W} {cc : ByteArray} {own : String} {va : Value} (C : Cx Z X cc nL own) (d : dI cc pc (.pop2) 1 nx) (h : va.category = 2) (k : Jd Z X R nL Q rc rs nx lv (st) ws) : Jd Z X R nL Q rc rs pc lv (va :: st) ws := by
  obtain ⟨d, rfl⟩ := d
  intro ls H locs cells slots hc hs hl hP hD hS
  exact lv_pop2_2 C.1 C.2.1 d h (k ls H locs cells slots hc hs hl hP hD hS)
theorem J_dup2 {Z : GZ} {X : CX} {R : Room} {nL : Nat} {Q : State → Prop} {rc rs pc nx : Nat} {lv : List (Nat × Value)} {st : List Value} {ws : va_W} {cc : ByteArray} {own : String} {va vb : Value} (C : Cx Z X cc nL own) (d : dI cc pc (.dup2) 1 nx) (h : va.category = 1) (h2 : vb.category = 1) (k : Jd Z X R nL Q rc rs nx lv (va :: vb :: va :: vb :: st) ws) : Jd Z X R nL Q rc rs pc lv (va :: vb :: st) ws := by
  obtain ⟨d, rfl⟩ := d
  intro ls H locs cells slots hc hs hl hP hD hS
  exact lv_dup2_11 C.1 C.2.1 d h h2 (k ls H locs cells slots hc hs hl hP hD hS)
theorem J_lcmp {Z : GZ} {X : CX} {R : Room} {nL : Nat} {Q : State → Prop} {rc rs pc nx : Nat} {lv : List (Nat × Value)} {st : List Value} {ws : va_W} {cc : ByteArray} {own : String} {x y : Int64} (C : Cx Z X cc nL own) (d : dI cc pc (.lcmp) 1 nx)  (k : Jd Z X R nL Q rc rs nx lv (.int (lg_cmp x y) :: st) ws) : Jd Z X R nL Q rc rs pc lv (.long y :: .long x :: st) ws := by
  obtain ⟨d, rfl⟩ := d
  intro ls H locs cells slots hc hs hl hP hD hS
  exact W.lcmp C.1 C.2.1 d  (k ls H locs cells slots hc hs hl hP hD hS)
theorem lv_get {ls : Array Slot} {nL : Nat} {l : List (Nat × Value)} (h : lv_has ls nL l) {i : Nat} {v : Value} (hk : l.lookup i = some v) : ls[i]? = some (.val v) := by
  refine h.2.2 (i, v) ?_
  clear h
  induction l with
  | nil => simp at hk
  | cons q l ih =>
    obtain ⟨a, b⟩ := q
    by_cases e : i = a
    · subst e
      simp [List.lookup] at hk
      subst hk
      exact List.mem_cons_self
    · have e2 : (i == a) = false := by simp [e]
      simp only [List.lookup, e2] at hk
      exact List.mem_cons_of_mem _ (ih hk)
theorem J_iload_n {Z : GZ} {X : CX} {R : Room} {nL : Nat} {Q : State → Prop} {rc rs pc nx : Nat} {lv : List (Nat × Value)} {st : List Value} {ws : va_W} {cc : ByteArray} {own : String} {k : Fin 4} {i : Nat} {x : Int32} (C : Cx Z X cc nL own) (d : dI cc pc (.iload_n k) 1 nx) (hi : (k : Nat) = i) (h : lv.lookup i = some (.int x)) (k9 : Jd Z X R nL Q rc rs nx lv (.int x :: st) ws) : Jd Z X R nL Q rc rs pc lv (st) ws := by
  obtain ⟨d, rfl⟩ := d
  intro ls H locs cells slots hc hs hl hP hD hS
  exact lv_iload_n C.1 C.2.1 d hi (lv_get hl h) (k9 ls H locs cells slots hc hs hl hP hD hS)
theorem J_iload {Z : GZ} {X : CX} {R : Room} {nL : Nat} {Q : State → Prop} {rc rs pc nx : Nat} {lv : List (Nat × Value)} {st : List Value} {ws : va_W} {cc : ByteArray} {own : String} {i : Nat} {x : Int32} (C : Cx Z X cc nL own) (d : dI cc pc (.iload i) 2 nx) (h : lv.lookup i = some (.int x)) (k9 : Jd Z X R nL Q rc rs nx lv (.int x :: st) ws) : Jd Z X R nL Q rc rs pc lv (st) ws := by
  obtain ⟨d, rfl⟩ := d
  intro ls H locs cells slots hc hs hl hP hD hS
  exact lv_iload C.1 C.2.1 d (lv_get hl h) (k9 ls H locs cells slots hc hs hl hP hD hS)
theorem J_lload_n {Z : GZ} {X : CX} {R : Room} {nL : Nat} {Q : State → Prop} {rc rs pc nx : Nat} {lv : List (Nat × Value)} {st : List Value} {ws : va_W} {cc : ByteArray} {own : String} {k : Fin 4} {i : Nat} {x : Int64} (C : Cx Z X cc nL own) (d : dI cc pc (.lload_n k) 1 nx) (hi : (k : Nat) = i) (h : lv.lookup i = some (.long x)) (k9 : Jd Z X R nL Q rc rs nx lv (.long x :: st) ws) : Jd Z X R nL Q rc rs pc lv (st) ws := by
  obtain ⟨d, rfl⟩ := d
  intro ls H locs cells slots hc hs hl hP hD hS
  exact lv_lload_n C.1 C.2.1 d hi (lv_get hl h) (k9 ls H locs cells slots hc hs hl hP hD hS)
theorem J_lload {Z : GZ} {X : CX} {R : Room} {nL : Nat} {Q : State → Prop} {rc rs pc nx : Nat} {lv : List (Nat × Value)} {st : List Value} {ws : va_W} {cc : ByteArray} {own : String} {i : Nat} {x : Int64} (C : Cx Z X cc nL own) (d : dI cc pc (.lload i) 2 nx) (h : lv.lookup i = some (.long x)) (k9 : Jd Z X R nL Q rc rs nx lv (.long x :: st) ws) : Jd Z X R nL Q rc rs pc lv (st) ws := by
  obtain ⟨d, rfl⟩ := d
  intro ls H locs cells slots hc hs hl hP hD hS
  exact lv_lload C.1 C.2.1 d (lv_get hl h) (k9 ls H locs cells slots hc hs hl hP hD hS)
theorem J_aload_n {Z : GZ} {X : CX} {R : Room} {nL : Nat} {Q : State → Prop} {rc rs pc nx : Nat} {lv : List (Nat × Value)} {st : List Value} {ws : va_W} {cc : ByteArray} {own : String} {k : Fin 4} {i : Nat} {x : Nat} (C : Cx Z X cc nL own) (d : dI cc pc (.aload_n k) 1 nx) (hi : (k : Nat) = i) (h : lv.lookup i = some (.ref x)) (k9 : Jd Z X R nL Q rc rs nx lv (.ref x :: st) ws) : Jd Z X R nL Q rc rs pc lv (st) ws := by
  obtain ⟨d, rfl⟩ := d
  intro ls H locs cells slots hc hs hl hP hD hS
  exact lv_aload_n C.1 C.2.1 d hi (lv_get hl h) (k9 ls H locs cells slots hc hs hl hP hD hS)
theorem J_aload {Z : GZ} {X : CX} {R : Room} {nL : Nat} {Q : State → Prop} {rc rs pc nx : Nat} {lv : List (Nat × Value)} {st : List Value} {ws : va_W} {cc : ByteArray} {own : String} {i : Nat} {x : Nat} (C : Cx Z X cc nL own) (d : dI cc pc (.aload i) 2 nx) (h : lv.lookup i = some (.ref x)) (k9 : Jd Z X R nL Q rc rs nx lv (.ref x :: st) ws) : Jd Z X R nL Q rc rs pc lv (st) ws := by
  obtain ⟨d, rfl⟩ := d
  intro ls H locs cells slots hc hs hl hP hD hS
  exact lv_aload C.1 C.2.1 d (lv_get hl h) (k9 ls H locs cells slots hc hs hl hP hD hS)
theorem J_istore_n {Z : GZ} {X : CX} {R : Room} {nL : Nat} {Q : State → Prop} {rc rs pc nx : Nat} {lv : List (Nat × Value)} {st : List Value} {ws : va_W} {cc : ByteArray} {own : String} {k : Fin 4} {i : Nat} {x : Int32} (lv2 : List (Nat × Value)) (C : Cx Z X cc nL own) (d : dI cc pc (.istore_n k) 1 nx) (hi : (k : Nat) = i) (hn : i < nL) (h : (i, Value.int x) :: lv.filter (fun q => !(q.1 == i) && !(q.1 + 1 == i && q.2.category == 2)) = lv2) (k9 : Jd Z X R nL Q rc rs nx lv2 (st) ws) : Jd Z X R nL Q rc rs pc lv (.int x :: st) ws := by
  obtain ⟨d, rfl⟩ := d
  intro ls H locs cells slots hc hs hl hP hD hS
  exact lv_istore_n C.1 C.2.1 d hi hl hn h (fun ls2 hl2 => k9 ls2 H locs cells slots hc hs hl2 hP hD hS)
theorem J_istore {Z : GZ} {X : CX} {R : Room} {nL : Nat} {Q : State → Prop} {rc rs pc nx : Nat} {lv : List (Nat × Value)} {st : List Value} {ws : va_W} {cc : ByteArray} {own : String} {i : Nat} {x : Int32} (lv2 : List (Nat × Value)) (C : Cx Z X cc nL own) (d : dI cc pc (.istore i) 2 nx) (hn : i < nL) (h : (i, Value.int x) :: lv.filter (fun q => !(q.1 == i) && !(q.1 + 1 == i && q.2.category == 2)) = lv2) (k9 : Jd Z X R nL Q rc rs nx lv2 (st) ws) : Jd Z X R nL Q rc rs pc lv (.int x :: st) ws := by
  obtain ⟨d, rfl⟩ := d
  intro ls H locs cells slots hc hs hl hP hD hS
  exact lv_istore C.1 C.2.1 d hl hn h (fun ls2 hl2 => k9 ls2 H locs cells slots hc hs hl2 hP hD hS)
theorem J_lstore_n {Z : GZ} {X : CX} {R : Room} {nL : Nat} {Q : State → Prop} {rc rs pc nx : Nat} {lv : List (Nat × Value)} {st : List Value} {ws : va_W} {cc : ByteArray} {own : String} {k : Fin 4} {i : Nat} {x : Int64} (lv2 : List (Nat × Value)) (C : Cx Z X cc nL own) (d : dI cc pc (.lstore_n k) 1 nx) (hi : (k : Nat) = i) (hn : i + 1 < nL) (h : (i, Value.long x) :: lv.filter (fun q => !(q.1 == i) && (!(q.1 == i + 1) && !(q.1 + 1 == i && q.2.category == 2))) = lv2) (k9 : Jd Z X R nL Q rc rs nx lv2 (st) ws) : Jd Z X R nL Q rc rs pc lv (.long x :: st) ws := by
  obtain ⟨d, rfl⟩ := d
  intro ls H locs cells slots hc hs hl hP hD hS
  exact lv_lstore_n C.1 C.2.1 d hi hl hn h (fun ls2 hl2 => k9 ls2 H locs cells slots hc hs hl2 hP hD hS)
theorem J_lstore {Z : GZ} {X : CX} {R : Room} {nL : Nat} {Q : State → Prop} {rc rs pc nx : Nat} {lv : List (Nat × Value)} {st : List Value} {ws : va_W} {cc : ByteArray} {own : String} {i : Nat} {x : Int64} (lv2 : List (Nat × Value)) (C : Cx Z X cc nL own) (d : dI cc pc (.lstore i) 2 nx) (hn : i + 1 < nL) (h : (i, Value.long x) :: lv.filter (fun q => !(q.1 == i) && (!(q.1 == i + 1) && !(q.1 + 1 == i && q.2.category == 2))) = lv2) (k9 : Jd Z X R nL Q rc rs nx lv2 (st) ws) : Jd Z X R nL Q rc rs pc lv (.long x :: st) ws := by
  obtain ⟨d, rfl⟩ := d
  intro ls H locs cells slots hc hs hl hP hD hS
  exact lv_lstore C.1 C.2.1 d hl hn h (fun ls2 hl2 => k9 ls2 H locs cells slots hc hs hl2 hP hD hS)
theorem J_astore_n {Z : GZ} {X : CX} {R : Room} {nL : Nat} {Q : State → Prop} {rc rs pc nx : Nat} {lv : List (Nat × Value)} {st : List Value} {ws : va_W} {cc : ByteArray} {own : String} {k : Fin 4} {i : Nat} {x : Nat} (lv2 : List (Nat × Value)) (C : Cx Z X cc nL own) (d : dI cc pc (.astore_n k) 1 nx) (hi : (k : Nat) = i) (hn : i < nL) (h : (i, Value.ref x) :: lv.filter (fun q => !(q.1 == i) && !(q.1 + 1 == i && q.2.category == 2)) = lv2) (k9 : Jd Z X R nL Q rc rs nx lv2 (st) ws) : Jd Z X R nL Q rc rs pc lv (.ref x :: st) ws := by
  obtain ⟨d, rfl⟩ := d
  intro ls H locs cells slots hc hs hl hP hD hS
  exact lv_astore_n C.1 C.2.1 d hi hl hn h (fun ls2 hl2 => k9 ls2 H locs cells slots hc hs hl2 hP hD hS)
theorem J_astore {Z : GZ} {X : CX} {R : Room} {nL : Nat} {Q : State → Prop} {rc rs pc nx : Nat} {lv : List (Nat × Value)} {st : List Value} {ws : va_W} {cc : ByteArray} {own : String} {i : Nat} {x : Nat} (lv2 : List (Nat × Value)) (C : Cx Z X cc nL own) (d : dI cc pc (.astore i) 2 nx) (hn : i < nL) (h : (i, Value.ref x) :: lv.filter (fun q => !(q.1 == i) && !(q.1 + 1 == i && q.2.category == 2)) = lv2) (k9 : Jd Z X R nL Q rc rs nx lv2 (st) ws) : Jd Z X R nL Q rc rs pc lv (.ref x :: st) ws := by
  obtain ⟨d, rfl⟩ := d
  intro ls H locs cells slots hc hs hl hP hD hS
  exact lv_astore C.1 C.2.1 d hl hn h (fun ls2 hl2 => k9 ls2 H locs cells slots hc hs hl2 hP hD hS)
theorem J_aload_nN {Z : GZ} {X : CX} {R : Room} {nL : Nat} {Q : State → Prop} {rc rs pc nx : Nat} {lv : List (Nat × Value)} {st : List Value} {ws : va_W} {cc : ByteArray} {own : String} {k : Fin 4} {i : Nat} (C : Cx Z X cc nL own) (d : dI cc pc (.aload_n k) 1 nx) (hi : (k : Nat) = i) (h : lv.lookup i = some .null) (k9 : Jd Z X R nL Q rc rs nx lv (.null :: st) ws) : Jd Z X R nL Q rc rs pc lv (st) ws := by
  obtain ⟨d, rfl⟩ := d
  intro ls H locs cells slots hc hs hl hP hD hS
  exact lv_aload_nN C.1 C.2.1 d hi (lv_get hl h) (k9 ls H locs cells slots hc hs hl hP hD hS)
theorem J_aloadN {Z : GZ} {X : CX} {R : Room} {nL : Nat} {Q : State → Prop} {rc rs pc nx : Nat} {lv : List (Nat × Value)} {st : List Value} {ws : va_W} {cc : ByteArray} {own : String} {i : Nat} (C : Cx Z X cc nL own) (d : dI cc pc (.aload i) 2 nx) (h : lv.lookup i = some .null) (k9 : Jd Z X R nL Q rc rs nx lv (.null :: st) ws) : Jd Z X R nL Q rc rs pc lv (st) ws := by
  obtain ⟨d, rfl⟩ := d
  intro ls H locs cells slots hc hs hl hP hD hS
  exact lv_aloadN C.1 C.2.1 d (lv_get hl h) (k9 ls H locs cells slots hc hs hl hP hD hS)
theorem J_astore_nN {Z : GZ} {X : CX} {R : Room} {nL : Nat} {Q : State → Prop} {rc rs pc nx : Nat} {lv : List (Nat × Value)} {st : List Value} {ws : va_W} {cc : ByteArray} {own : String} {k : Fin 4} {i : Nat} (lv2 : List (Nat × Value)) (C : Cx Z X cc nL own) (d : dI cc pc (.astore_n k) 1 nx) (hi : (k : Nat) = i) (hn : i < nL) (h : (i, Value.null) :: lv.filter (fun q => !(q.1 == i) && !(q.1 + 1 == i && q.2.category == 2)) = lv2) (k9 : Jd Z X R nL Q rc rs nx lv2 (st) ws) : Jd Z X R nL Q rc rs pc lv (.null :: st) ws := by
  obtain ⟨d, rfl⟩ := d
  intro ls H locs cells slots hc hs hl hP hD hS
  exact lv_astore_nN C.1 C.2.1 d hi hl hn h (fun ls2 hl2 => k9 ls2 H locs cells slots hc hs hl2 hP hD hS)
theorem J_astoreN {Z : GZ} {X : CX} {R : Room} {nL : Nat} {Q : State → Prop} {rc rs pc nx : Nat} {lv : List (Nat × Value)} {st : List Value} {ws : va_W} {cc : ByteArray} {own : String} {i : Nat} (lv2 : List (Nat × Value)) (C : Cx Z X cc nL own) (d : dI cc pc (.astore i) 2 nx) (hn : i < nL) (h : (i, Value.null) :: lv.filter (fun q => !(q.1 == i) && !(q.1 + 1 == i && q.2.category == 2)) = lv2) (k9 : Jd Z X R nL Q rc rs nx lv2 (st) ws) : Jd Z X R nL Q rc rs pc lv (.null :: st) ws := by
  obtain ⟨d, rfl⟩ := d
  intro ls H locs cells slots hc hs hl hP hD hS
  exact lv_astoreN C.1 C.2.1 d hl hn h (fun ls2 hl2 => k9 ls2 H locs cells slots hc hs hl2 hP hD hS)
theorem lv_idx {l : List (Nat × Value)} {i : Nat} {v : Value} (hk : l.lookup i = some v) : ∃ k : Nat, l[k]? = some (i, v) := by
  induction l with
  | nil => simp at hk
  | cons q l ih =>
    obtain ⟨a, b⟩ := q
    by_cases e : i = a
    · subst e
      simp [List.lookup] at hk
      subst hk
      exact ⟨0, rfl⟩
    · have e2 : (i == a) = false := by simp [e]
      simp only [List.lookup, e2] at hk
      obtain ⟨k, h⟩ := ih hk
      exact ⟨k + 1, h⟩
theorem J_iinc {Z : GZ} {X : CX} {R : Room} {nL : Nat} {Q : State → Prop} {rc rs pc nx : Nat} {lv : List (Nat × Value)} {st : List Value} {ws : va_W} {cc : ByteArray} {own : String} {i : Nat} {n : Int} {x : Int32} (v : Int32) (lv2 : List (Nat × Value)) (C : Cx Z X cc nL own) (d : dI cc pc (.iinc i n) 3 nx) (hk : lv.lookup i = some (.int x)) (hv : x + Int32.ofInt n = v) (hn : i < nL) (h : (i, Value.int v) :: lv.filter (fun q => !(q.1 == i) && !(q.1 + 1 == i && q.2.category == 2)) = lv2) (k9 : Jd Z X R nL Q rc rs nx lv2 (st) ws) : Jd Z X R nL Q rc rs pc lv (st) ws := by
  obtain ⟨d, rfl⟩ := d
  obtain ⟨k, hk⟩ := lv_idx hk
  intro ls H locs cells slots hc hs hl hP hD hS
  exact lv_iinc C.1 C.2.1 d hl hk hv hn h (fun ls2 hl2 => k9 ls2 H locs cells slots hc hs hl2 hP hD hS)
theorem J_goto {Z : GZ} {X : CX} {R : Room} {nL : Nat} {Q : State → Prop} {rc rs pc nx : Nat} {lv : List (Nat × Value)} {st : List Value} {ws : va_W} {cc : ByteArray} {own : String} {off : Int} (tgt : Nat) (C : Cx Z X cc nL own) (d : dI cc pc (.goto off) 3 nx) (ht : (pc : Int) + off = (tgt : Int)) (k : Jd Z X R nL Q rc rs tgt lv (st) ws) : Jd Z X R nL Q rc rs pc lv (st) ws := by
  obtain ⟨d, rfl⟩ := d
  intro ls H locs cells slots hc hs hl hP hD hS
  exact lv_goto C.1 C.2.1 d ht (k ls H locs cells slots hc hs hl hP hD hS)
theorem J_ifeq {Z : GZ} {X : CX} {R : Room} {nL : Nat} {Q : State → Prop} {rc rs pc nx : Nat} {lv : List (Nat × Value)} {st : List Value} {ws : va_W} {cc : ByteArray} {own : String} {x : Int32} {off : Int} (tgt : Nat) (C : Cx Z X cc nL own) (d : dI cc pc (.ifCond .eq off) 3 nx) (ht : (pc : Int) + off = (tgt : Int)) (kt : x = 0 → Jd Z X R nL Q rc rs tgt lv (st) ws) (kf : ¬ x = 0 → Jd Z X R nL Q rc rs nx lv (st) ws) : Jd Z X R nL Q rc rs pc lv (.int x :: st) ws := by
  obtain ⟨d, rfl⟩ := d
  intro ls H locs cells slots hc hs hl hP hD hS
  exact lv_if_eq C.1 C.2.1 d ht (fun h => kt h ls H locs cells slots hc hs hl hP hD hS) (fun h => kf h ls H locs cells slots hc hs hl hP hD hS)
theorem J_icmpeq {Z : GZ} {X : CX} {R : Room} {nL : Nat} {Q : State → Prop} {rc rs pc nx : Nat} {lv : List (Nat × Value)} {st : List Value} {ws : va_W} {cc : ByteArray} {own : String} {x y : Int32} {off : Int} (tgt : Nat) (C : Cx Z X cc nL own) (d : dI cc pc (.if_icmp .eq off) 3 nx) (ht : (pc : Int) + off = (tgt : Int)) (kt : x = y → Jd Z X R nL Q rc rs tgt lv (st) ws) (kf : ¬ x = y → Jd Z X R nL Q rc rs nx lv (st) ws) : Jd Z X R nL Q rc rs pc lv (.int y :: .int x :: st) ws := by
  obtain ⟨d, rfl⟩ := d
  intro ls H locs cells slots hc hs hl hP hD hS
  exact lv_icmp_eq C.1 C.2.1 d ht (fun h => kt h ls H locs cells slots hc hs hl hP hD hS) (fun h => kf h ls H locs cells slots hc hs hl hP hD hS)
theorem J_ifne {Z : GZ} {X : CX} {R : Room} {nL : Nat} {Q : State → Prop} {rc rs pc nx : Nat} {lv : List (Nat × Value)} {st : List Value} {ws : va_W} {cc : ByteArray} {own : String} {x : Int32} {off : Int} (tgt : Nat) (C : Cx Z X cc nL own) (d : dI cc pc (.ifCond .ne off) 3 nx) (ht : (pc : Int) + off = (tgt : Int)) (kt : ¬ x = 0 → Jd Z X R nL Q rc rs tgt lv (st) ws) (kf : x = 0 → Jd Z X R nL Q rc rs nx lv (st) ws) : Jd Z X R nL Q rc rs pc lv (.int x :: st) ws := by
  obtain ⟨d, rfl⟩ := d
  intro ls H locs cells slots hc hs hl hP hD hS
  exact lv_if_ne C.1 C.2.1 d ht (fun h => kt h ls H locs cells slots hc hs hl hP hD hS) (fun h => kf h ls H locs cells slots hc hs hl hP hD hS)
theorem J_icmpne {Z : GZ} {X : CX} {R : Room} {nL : Nat} {Q : State → Prop} {rc rs pc nx : Nat} {lv : List (Nat × Value)} {st : List Value} {ws : va_W} {cc : ByteArray} {own : String} {x y : Int32} {off : Int} (tgt : Nat) (C : Cx Z X cc nL own) (d : dI cc pc (.if_icmp .ne off) 3 nx) (ht : (pc : Int) + off = (tgt : Int)) (kt : ¬ x = y → Jd Z X R nL Q rc rs tgt lv (st) ws) (kf : x = y → Jd Z X R nL Q rc rs nx lv (st) ws) : Jd Z X R nL Q rc rs pc lv (.int y :: .int x :: st) ws := by
  obtain ⟨d, rfl⟩ := d
  intro ls H locs cells slots hc hs hl hP hD hS
  exact lv_icmp_ne C.1 C.2.1 d ht (fun h => kt h ls H locs cells slots hc hs hl hP hD hS) (fun h => kf h ls H locs cells slots hc hs hl hP hD hS)
theorem J_iflt {Z : GZ} {X : CX} {R : Room} {nL : Nat} {Q : State → Prop} {rc rs pc nx : Nat} {lv : List (Nat × Value)} {st : List Value} {ws : va_W} {cc : ByteArray} {own : String} {x : Int32} {off : Int} (tgt : Nat) (C : Cx Z X cc nL own) (d : dI cc pc (.ifCond .lt off) 3 nx) (ht : (pc : Int) + off = (tgt : Int)) (kt : x < 0 → Jd Z X R nL Q rc rs tgt lv (st) ws) (kf : ¬ x < 0 → Jd Z X R nL Q rc rs nx lv (st) ws) : Jd Z X R nL Q rc rs pc lv (.int x :: st) ws := by
  obtain ⟨d, rfl⟩ := d
  intro ls H locs cells slots hc hs hl hP hD hS
  exact lv_if_lt C.1 C.2.1 d ht (fun h => kt h ls H locs cells slots hc hs hl hP hD hS) (fun h => kf h ls H locs cells slots hc hs hl hP hD hS)
theorem J_icmplt {Z : GZ} {X : CX} {R : Room} {nL : Nat} {Q : State → Prop} {rc rs pc nx : Nat} {lv : List (Nat × Value)} {st : List Value} {ws : va_W} {cc : ByteArray} {own : String} {x y : Int32} {off : Int} (tgt : Nat) (C : Cx Z X cc nL own) (d : dI cc pc (.if_icmp .lt off) 3 nx) (ht : (pc : Int) + off = (tgt : Int)) (kt : x < y → Jd Z X R nL Q rc rs tgt lv (st) ws) (kf : ¬ x < y → Jd Z X R nL Q rc rs nx lv (st) ws) : Jd Z X R nL Q rc rs pc lv (.int y :: .int x :: st) ws := by
  obtain ⟨d, rfl⟩ := d
  intro ls H locs cells slots hc hs hl hP hD hS
  exact lv_icmp_lt C.1 C.2.1 d ht (fun h => kt h ls H locs cells slots hc hs hl hP hD hS) (fun h => kf h ls H locs cells slots hc hs hl hP hD hS)
theorem J_ifge {Z : GZ} {X : CX} {R : Room} {nL : Nat} {Q : State → Prop} {rc rs pc nx : Nat} {lv : List (Nat × Value)} {st : List Value} {ws : va_W} {cc : ByteArray} {own : String} {x : Int32} {off : Int} (tgt : Nat) (C : Cx Z X cc nL own) (d : dI cc pc (.ifCond .ge off) 3 nx) (ht : (pc : Int) + off = (tgt : Int)) (kt : 0 ≤ x → Jd Z X R nL Q rc rs tgt lv (st) ws) (kf : ¬ 0 ≤ x → Jd Z X R nL Q rc rs nx lv (st) ws) : Jd Z X R nL Q rc rs pc lv (.int x :: st) ws := by
  obtain ⟨d, rfl⟩ := d
  intro ls H locs cells slots hc hs hl hP hD hS
  exact lv_if_ge C.1 C.2.1 d ht (fun h => kt h ls H locs cells slots hc hs hl hP hD hS) (fun h => kf h ls H locs cells slots hc hs hl hP hD hS)
theorem J_icmpge {Z : GZ} {X : CX} {R : Room} {nL : Nat} {Q : State → Prop} {rc rs pc nx : Nat} {lv : List (Nat × Value)} {st : List Value} {ws : va_W} {cc : ByteArray} {own : String} {x y : Int32} {off : Int} (tgt : Nat) (C : Cx Z X cc nL own) (d : dI cc pc (.if_icmp .ge off) 3 nx) (ht : (pc : Int) + off = (tgt : Int)) (kt : y ≤ x → Jd Z X R nL Q rc rs tgt lv (st) ws) (kf : ¬ y ≤ x → Jd Z X R nL Q rc rs nx lv (st) ws) : Jd Z X R nL Q rc rs pc lv (.int y :: .int x :: st) ws := by
  obtain ⟨d, rfl⟩ := d
  intro ls H locs cells slots hc hs hl hP hD hS
  exact lv_icmp_ge C.1 C.2.1 d ht (fun h => kt h ls H locs cells slots hc hs hl hP hD hS) (fun h => kf h ls H locs cells slots hc hs hl hP hD hS)
theorem J_ifgt {Z : GZ} {X : CX} {R : Room} {nL : Nat} {Q : State → Prop} {rc rs pc nx : Nat} {lv : List (Nat × Value)} {st : List Value} {ws : va_W} {cc : ByteArray} {own : String} {x : Int32} {off : Int} (tgt : Nat) (C : Cx Z X cc nL own) (d : dI cc pc (.ifCond .gt off) 3 nx) (ht : (pc : Int) + off = (tgt : Int)) (kt : 0 < x → Jd Z X R nL Q rc rs tgt lv (st) ws) (kf : ¬ 0 < x → Jd Z X R nL Q rc rs nx lv (st) ws) : Jd Z X R nL Q rc rs pc lv (.int x :: st) ws := by
  obtain ⟨d, rfl⟩ := d
  intro ls H locs cells slots hc hs hl hP hD hS
  exact lv_if_gt C.1 C.2.1 d ht (fun h => kt h ls H locs cells slots hc hs hl hP hD hS) (fun h => kf h ls H locs cells slots hc hs hl hP hD hS)
theorem J_icmpgt {Z : GZ} {X : CX} {R : Room} {nL : Nat} {Q : State → Prop} {rc rs pc nx : Nat} {lv : List (Nat × Value)} {st : List Value} {ws : va_W} {cc : ByteArray} {own : String} {x y : Int32} {off : Int} (tgt : Nat) (C : Cx Z X cc nL own) (d : dI cc pc (.if_icmp .gt off) 3 nx) (ht : (pc : Int) + off = (tgt : Int)) (kt : y < x → Jd Z X R nL Q rc rs tgt lv (st) ws) (kf : ¬ y < x → Jd Z X R nL Q rc rs nx lv (st) ws) : Jd Z X R nL Q rc rs pc lv (.int y :: .int x :: st) ws := by
  obtain ⟨d, rfl⟩ := d
  intro ls H locs cells slots hc hs hl hP hD hS
  exact lv_icmp_gt C.1 C.2.1 d ht (fun h => kt h ls H locs cells slots hc hs hl hP hD hS) (fun h => kf h ls H locs cells slots hc hs hl hP hD hS)
theorem J_ifle {Z : GZ} {X : CX} {R : Room} {nL : Nat} {Q : State → Prop} {rc rs pc nx : Nat} {lv : List (Nat × Value)} {st : List Value} {ws : va_W} {cc : ByteArray} {own : String} {x : Int32} {off : Int} (tgt : Nat) (C : Cx Z X cc nL own) (d : dI cc pc (.ifCond .le off) 3 nx) (ht : (pc : Int) + off = (tgt : Int)) (kt : x ≤ 0 → Jd Z X R nL Q rc rs tgt lv (st) ws) (kf : ¬ x ≤ 0 → Jd Z X R nL Q rc rs nx lv (st) ws) : Jd Z X R nL Q rc rs pc lv (.int x :: st) ws := by
  obtain ⟨d, rfl⟩ := d
  intro ls H locs cells slots hc hs hl hP hD hS
  exact lv_if_le C.1 C.2.1 d ht (fun h => kt h ls H locs cells slots hc hs hl hP hD hS) (fun h => kf h ls H locs cells slots hc hs hl hP hD hS)
theorem J_icmple {Z : GZ} {X : CX} {R : Room} {nL : Nat} {Q : State → Prop} {rc rs pc nx : Nat} {lv : List (Nat × Value)} {st : List Value} {ws : va_W} {cc : ByteArray} {own : String} {x y : Int32} {off : Int} (tgt : Nat) (C : Cx Z X cc nL own) (d : dI cc pc (.if_icmp .le off) 3 nx) (ht : (pc : Int) + off = (tgt : Int)) (kt : x ≤ y → Jd Z X R nL Q rc rs tgt lv (st) ws) (kf : ¬ x ≤ y → Jd Z X R nL Q rc rs nx lv (st) ws) : Jd Z X R nL Q rc rs pc lv (.int y :: .int x :: st) ws := by
  obtain ⟨d, rfl⟩ := d
  intro ls H locs cells slots hc hs hl hP hD hS
  exact lv_icmp_le C.1 C.2.1 d ht (fun h => kt h ls H locs cells slots hc hs hl hP hD hS) (fun h => kf h ls H locs cells slots hc hs hl hP hD hS)
theorem J_acmpeqO {Z : GZ} {X : CX} {R : Room} {nL : Nat} {Q : State → Prop} {rc rs pc nx : Nat} {lv : List (Nat × Value)} {st : List Value} {ws : va_W} {cc : ByteArray} {own : String} {rx ry : Option Nat} {off : Int} (tgt : Nat) (C : Cx Z X cc nL own) (d : dI cc pc (.if_acmp .eq off) 3 nx) (ht : (pc : Int) + off = (tgt : Int)) (kt : rx = ry → Jd Z X R nL Q rc rs tgt lv (st) ws) (kf : ¬ rx = ry → Jd Z X R nL Q rc rs nx lv (st) ws) : Jd Z X R nL Q rc rs pc lv (va_rf ry :: va_rf rx :: st) ws := by
  obtain ⟨d, rfl⟩ := d
  intro ls H locs cells slots hc hs hl hP hD hS
  exact lv_acmp_eq C.1 C.2.1 d ht (fun h => kt h ls H locs cells slots hc hs hl hP hD hS) (fun h => kf h ls H locs cells slots hc hs hl hP hD hS)
theorem J_acmpeq {Z : GZ} {X : CX} {R : Room} {nL : Nat} {Q : State → Prop} {rc rs pc nx : Nat} {lv : List (Nat × Value)} {st : List Value} {ws : va_W} {cc : ByteArray} {own : String} {x y : Nat} {off : Int} (tgt : Nat) (C : Cx Z X cc nL own) (d : dI cc pc (.if_acmp .eq off) 3 nx) (ht : (pc : Int) + off = (tgt : Int)) (kt : x = y → Jd Z X R nL Q rc rs tgt lv (st) ws) (kf : ¬ x = y → Jd Z X R nL Q rc rs nx lv (st) ws) : Jd Z X R nL Q rc rs pc lv (.ref y :: .ref x :: st) ws := by
  exact J_acmpeqO (rx := some x) (ry := some y) tgt C d ht (fun h => kt (by simpa using h)) (fun h => kf (by simpa using h))
theorem J_acmpneO {Z : GZ} {X : CX} {R : Room} {nL : Nat} {Q : State → Prop} {rc rs pc nx : Nat} {lv : List (Nat × Value)} {st : List Value} {ws : va_W} {cc : ByteArray} {own : String} {rx ry : Option Nat} {off : Int} (tgt : Nat) (C : Cx Z X cc nL own) (d : dI cc pc (.if_acmp .ne off) 3 nx) (ht : (pc : Int) + off = (tgt : Int)) (kt : ¬ rx = ry → Jd Z X R nL Q rc rs tgt lv (st) ws) (kf : rx = ry → Jd Z X R nL Q rc rs nx lv (st) ws) : Jd Z X R nL Q rc rs pc lv (va_rf ry :: va_rf rx :: st) ws := by
  obtain ⟨d, rfl⟩ := d
  intro ls H locs cells slots hc hs hl hP hD hS
  exact lv_acmp_ne C.1 C.2.1 d ht (fun h => kt h ls H locs cells slots hc hs hl hP hD hS) (fun h => kf h ls H locs cells slots hc hs hl hP hD hS)
theorem J_acmpne {Z : GZ} {X : CX} {R : Room} {nL : Nat} {Q : State → Prop} {rc rs pc nx : Nat} {lv : List (Nat × Value)} {st : List Value} {ws : va_W} {cc : ByteArray} {own : String} {x y : Nat} {off : Int} (tgt : Nat) (C : Cx Z X cc nL own) (d : dI cc pc (.if_acmp .ne off) 3 nx) (ht : (pc : Int) + off = (tgt : Int)) (kt : ¬ x = y → Jd Z X R nL Q rc rs tgt lv (st) ws) (kf : x = y → Jd Z X R nL Q rc rs nx lv (st) ws) : Jd Z X R nL Q rc rs pc lv (.ref y :: .ref x :: st) ws := by
  exact J_acmpneO (rx := some x) (ry := some y) tgt C d ht (fun h => kt (by simpa using h)) (fun h => kf (by simpa using h))
theorem J_ifnull {Z : GZ} {X : CX} {R : Room} {nL : Nat} {Q : State → Prop} {rc rs pc nx : Nat} {lv : List (Nat × Value)} {st : List Value} {ws : va_W} {cc : ByteArray} {own : String} {x : Nat} {off : Int} (C : Cx Z X cc nL own) (d : dI cc pc (.ifnull off) 3 nx) (k : Jd Z X R nL Q rc rs nx lv (st) ws) : Jd Z X R nL Q rc rs pc lv (.ref x :: st) ws := by
  obtain ⟨d, rfl⟩ := d
  intro ls H locs cells slots hc hs hl hP hD hS
  exact lv_ifnull C.1 C.2.1 d (k ls H locs cells slots hc hs hl hP hD hS)
theorem J_ifnullN {Z : GZ} {X : CX} {R : Room} {nL : Nat} {Q : State → Prop} {rc rs pc nx : Nat} {lv : List (Nat × Value)} {st : List Value} {ws : va_W} {cc : ByteArray} {own : String} {off : Int} (tgt : Nat) (C : Cx Z X cc nL own) (d : dI cc pc (.ifnull off) 3 nx) (ht : (pc : Int) + off = (tgt : Int)) (k : Jd Z X R nL Q rc rs tgt lv (st) ws) : Jd Z X R nL Q rc rs pc lv (.null :: st) ws := by
  obtain ⟨d, rfl⟩ := d
  intro ls H locs cells slots hc hs hl hP hD hS
  exact lv_ifnullN C.1 C.2.1 d ht (k ls H locs cells slots hc hs hl hP hD hS)
theorem J_tabIn {Z : GZ} {X : CX} {R : Room} {nL : Nat} {Q : State → Prop} {rc rs pc nx : Nat} {lv : List (Nat × Value)} {st : List Value} {ws : va_W} {cc : ByteArray} {own : String} {dflt lo hi : Int} {offs : Array Int} {len : Nat} {x : Int32} {off : Int} (tgt : Nat) (C : Cx Z X cc nL own) (d : dI cc pc (.tableswitch dflt lo hi offs) len nx) (h1 : ¬ x.toInt < lo) (h2 : ¬ hi < x.toInt) (ho : offs[(x.toInt - lo).toNat]? = some off) (ht : (pc : Int) + off = (tgt : Int)) (k : Jd Z X R nL Q rc rs tgt lv (st) ws) : Jd Z X R nL Q rc rs pc lv (.int x :: st) ws := by
  obtain ⟨d, rfl⟩ := d
  intro ls H locs cells slots hc hs hl hP hD hS
  exact lv_tableIn C.1 C.2.1 d h1 h2 ho ht (k ls H locs cells slots hc hs hl hP hD hS)
theorem J_tabOut {Z : GZ} {X : CX} {R : Room} {nL : Nat} {Q : State → Prop} {rc rs pc nx : Nat} {lv : List (Nat × Value)} {st : List Value} {ws : va_W} {cc : ByteArray} {own : String} {dflt lo hi : Int} {offs : Array Int} {len : Nat} {x : Int32} (tgt : Nat) (C : Cx Z X cc nL own) (d : dI cc pc (.tableswitch dflt lo hi offs) len nx) (h : x.toInt < lo ∨ hi < x.toInt) (ht : (pc : Int) + dflt = (tgt : Int)) (k : Jd Z X R nL Q rc rs tgt lv (st) ws) : Jd Z X R nL Q rc rs pc lv (.int x :: st) ws := by
  obtain ⟨d, rfl⟩ := d
  intro ls H locs cells slots hc hs hl hP hD hS
  exact lv_tableOut C.1 C.2.1 d h ht (k ls H locs cells slots hc hs hl hP hD hS)
theorem J_look {Z : GZ} {X : CX} {R : Room} {nL : Nat} {Q : State → Prop} {rc rs pc nx : Nat} {lv : List (Nat × Value)} {st : List Value} {ws : va_W} {cc : ByteArray} {own : String} {dflt : Int} {ps : Array (Int × Int)} {len : Nat} {x : Int32} {off : Int} (tgt : Nat) (C : Cx Z X cc nL own) (d : dI cc pc (.lookupswitch dflt ps) len nx) (hp : (ps.toList.zip (ps.toList.drop 1)).all (fun (a, next) => a.1 < next.1) = true) (ho : Op.lookupswitch.offset ps.toList dflt x.toInt = off) (ht : (pc : Int) + off = (tgt : Int)) (k : Jd Z X R nL Q rc rs tgt lv (st) ws) : Jd Z X R nL Q rc rs pc lv (.int x :: st) ws := by
  obtain ⟨d, rfl⟩ := d
  intro ls H locs cells slots hc hs hl hP hD hS
  exact lv_lookup C.1 C.2.1 d hp ho ht (k ls H locs cells slots hc hs hl hP hD hS)
theorem J_ldc2 {Z : GZ} {X : CX} {R : Room} {nL : Nat} {Q : State → Prop} {rc rs pc nx : Nat} {lv : List (Nat × Value)} {st : List Value} {ws : va_W} {cc : ByteArray} {own : String} {idx : Nat} (v : Int64) (C : Cx Z X cc nL own) (d : dI cc pc (.ldc2_w idx) 3 nx) (hw : Cond.constantLong own idx v ∈ TSg) (k : Jd Z X R nL Q rc rs nx lv (.long v :: st) ws) : Jd Z X R nL Q rc rs pc lv (st) ws := by
  obtain ⟨d, rfl⟩ := d
  intro ls H locs cells slots hc hs hl hP hD hS
  exact lv_ldc2 C.1 C.2.1 C.2.2.2.1 (C.2.2.2.2.1 _ hw) d (k ls H locs cells slots hc hs hl hP hD hS)
theorem J_ldcw {Z : GZ} {X : CX} {R : Room} {nL : Nat} {Q : State → Prop} {rc rs pc nx : Nat} {lv : List (Nat × Value)} {st : List Value} {ws : va_W} {cc : ByteArray} {own : String} {idx : Nat} (v : Int32) (C : Cx Z X cc nL own) (d : dI cc pc (.ldc_w idx) 3 nx) (hw : Cond.constant own idx v ∈ TSg) (k : Jd Z X R nL Q rc rs nx lv (.int v :: st) ws) : Jd Z X R nL Q rc rs pc lv (st) ws := by
  obtain ⟨d, rfl⟩ := d
  intro ls H locs cells slots hc hs hl hP hD hS
  exact lv_ldcw C.1 C.2.1 C.2.2.2.1 (C.2.2.2.2.1 _ hw) d (k ls H locs cells slots hc hs hl hP hD hS)
theorem J_get {Z : GZ} {X : CX} {R : Room} {nL : Nat} {Q : State → Prop} {rc rs pc nx : Nat} {lv : List (Nat × Value)} {st : List Value} {ws : va_W} {cc : ByteArray} {own : String} {idx ci k a : Nat} {fs : List Value} (v : Value) (q0 : Nat) (C : Cx Z X cc nL own) (d : dI cc pc (.getfield idx) 3 nx) (g : GF own idx ci k) (he : ws[q0]? = some (a, .inr (ci, fs))) (hv : fs[k]? = some v) (k9 : Jd Z X R nL Q rc rs nx lv (v :: st) ws) : Jd Z X R nL Q rc rs pc lv (.ref a :: st) ws := by
  obtain ⟨d, rfl⟩ := d
  obtain ⟨C0, T, N, g1, g2, g4, g5⟩ := g
  intro ls H locs cells slots hc hs hl hP hD hS
  rcases g5 with g5 | ⟨host, g5⟩
  · exact va_get C.1 C.2.1 C.2.2.2.2.1 g4 C.2.2.2.1 C.2.2.2.2.2.1.1 hP q0 he g1 k g2 (C.2.2.2.2.1 _ g5) (fun _ h9 => h9) hv d (k9 ls H locs cells slots hc hs hl hP hD hS)
  · exact va_getN C.1 C.2.1 C.2.2.2.2.1 g4 C.2.2.2.1 C.2.2.2.2.2.1.1 hP q0 he g1 k g2 (va_Nw.use rfl (C.2.2.2.2.2.1.2.1 _ g5)) (fun _ h9 => h9) hv d (k9 ls H locs cells slots hc hs hl hP hD hS)
theorem J_put {Z : GZ} {X : CX} {R : Room} {nL : Nat} {Q : State → Prop} {rc rs pc nx : Nat} {lv : List (Nat × Value)} {st : List Value} {ws : va_W} {cc : ByteArray} {own : String} {idx ci k a : Nat} {ty : FieldType} {fs : List Value} {v : Value} (ws2 : va_W) (q0 : Nat) (C : Cx Z X cc nL own) (d : dI cc pc (.putfield idx) 3 nx) (g : PF own idx ci k ty) (hn : narrow ty v = v) (hf : fits ty v = true) (he : ws[q0]? = some (a, .inr (ci, fs))) (hlen : k < fs.length) (h2 : ws.set q0 (a, .inr (ci, fs.set k v)) = ws2) (k9 : Jd Z X R nL Q rc rs nx lv (st) ws2) : Jd Z X R nL Q rc rs pc lv (v :: .ref a :: st) ws := by
  obtain ⟨d, rfl⟩ := d
  obtain ⟨C0, T, N, ty0, g1, g2, g4, g5, g6, g7, g8, g9⟩ := g
  subst h2
  intro ls H locs cells slots hc hs hl hP hD hS
  rcases g5 with g5 | ⟨host, g5⟩
  · exact va_put C.1 C.2.1 C.2.2.2.2.1 g4 ty0 g6 g7 C.2.2.2.1 C.2.2.2.2.2.1.1 hP hD hS q0 he g1 k g2 (C.2.2.2.2.1 _ g5) (fun _ h9 => h9) g9 (by rw [g6 k g2, g8]) hn hf hlen d (fun H1 locs1 hP1 hD1 hS1 => k9 ls H1 locs1 cells slots hc hs hl hP1 hD1 hS1)
  · exact va_putN C.1 C.2.1 C.2.2.2.2.1 g4 ty0 g6 g7 C.2.2.2.1 C.2.2.2.2.2.1.1 hP hD hS q0 he g1 k g2 (va_Nw.use rfl (C.2.2.2.2.2.1.2.1 _ g5)) (fun _ h9 => h9) g9 (by rw [g6 k g2, g8]) hn hf hlen d (fun H1 locs1 hP1 hD1 hS1 => k9 ls H1 locs1 cells slots hc hs hl hP1 hD1 hS1)
theorem J_putF {Z : GZ} {X : CX} {R : Room} {nL : Nat} {Q : State → Prop} {rc rs pc nx : Nat} {lv : List (Nat × Value)} {st : List Value} {ws : va_W} {cc : ByteArray} {own : String} {idx ci k a : Nat} {ty : FieldType} {fs : List Value} {v : Value} {ret : Option FieldType} (E : Cr X ret "<init>") (ws2 : va_W) (q0 : Nat) (C : Cx Z X cc nL own) (d : dI cc pc (.putfield idx) 3 nx) (g : PFF own idx ci k ty) (hn : narrow ty v = v) (hf : fits ty v = true) (he : ws[q0]? = some (a, .inr (ci, fs))) (hlen : k < fs.length) (h2 : ws.set q0 (a, .inr (ci, fs.set k v)) = ws2) (k9 : Jd Z X R nL Q rc rs nx lv (st) ws2) : Jd Z X R nL Q rc rs pc lv (v :: .ref a :: st) ws := by
  obtain ⟨d, rfl⟩ := d
  obtain ⟨C0, T, N, ty0, g1, g2, g3, g0, g4, g5, g6, g7, g8, g9⟩ := g
  subst h2
  intro ls H locs cells slots hc hs hl hP hD hS
  exact va_putF C.1 C.2.1 C.2.2.2.2.1 g4 ty0 g6 g7 C.2.2.2.1 C.2.2.2.2.2.1.1 hP hD hS q0 he g1 k g2 (C.2.2.2.2.1 _ g5) (fun _ h9 => by rw [g3] at h9; exact h9) g9 E.2.2 (g3.trans g0) (by rw [g6 k g2, g8]) hn hf hlen d (fun H1 locs1 hP1 hD1 hS1 => k9 ls H1 locs1 cells slots hc hs hl hP1 hD1 hS1)
theorem J_iald {Z : GZ} {X : CX} {R : Room} {nL : Nat} {Q : State → Prop} {rc rs pc nx : Nat} {lv : List (Nat × Value)} {st : List Value} {ws : va_W} {cc : ByteArray} {own : String} {a n : Nat} {f : Nat → Int32} {i : Int32} (q0 : Nat) (C : Cx Z X cc nL own) (d : dI cc pc (.iaload) 1 nx) (he : ws[q0]? = some (a, .inl (zA Z 0, n, .inl f))) (hin : vp_in i n) (k9 : Jd Z X R nL Q rc rs nx lv (.int (f i.toNatClampNeg) :: st) ws) : Jd Z X R nL Q rc rs pc lv (.int i :: .ref a :: st) ws := by
  obtain ⟨d, rfl⟩ := d
  intro ls H locs cells slots hc hs hl hP hD hS
  exact va_iald C.1 C.2.1 C.2.2.2.2.2.1.1 hP q0 0 he rfl hin d (k9 ls H locs cells slots hc hs hl hP hD hS)
theorem J_bald {Z : GZ} {X : CX} {R : Room} {nL : Nat} {Q : State → Prop} {rc rs pc nx : Nat} {lv : List (Nat × Value)} {st : List Value} {ws : va_W} {cc : ByteArray} {own : String} {a n : Nat} {f : Nat → Int32} {i : Int32} (q0 : Nat) (C : Cx Z X cc nL own) (d : dI cc pc (.baload) 1 nx) (he : ws[q0]? = some (a, .inl (zA Z 2, n, .inl f))) (hin : vp_in i n) (k9 : Jd Z X R nL Q rc rs nx lv (.int (f i.toNatClampNeg) :: st) ws) : Jd Z X R nL Q rc rs pc lv (.int i :: .ref a :: st) ws := by
  obtain ⟨d, rfl⟩ := d
  intro ls H locs cells slots hc hs hl hP hD hS
  exact va_bald C.1 C.2.1 C.2.2.2.2.2.1.1 hP q0 2 he rfl hin d (k9 ls H locs cells slots hc hs hl hP hD hS)
theorem J_zald {Z : GZ} {X : CX} {R : Room} {nL : Nat} {Q : State → Prop} {rc rs pc nx : Nat} {lv : List (Nat × Value)} {st : List Value} {ws : va_W} {cc : ByteArray} {own : String} {a n : Nat} {f : Nat → Int32} {i : Int32} (q0 : Nat) (C : Cx Z X cc nL own) (d : dI cc pc (.baload) 1 nx) (he : ws[q0]? = some (a, .inl (zA Z 8, n, .inl f))) (hin : vp_in i n) (k9 : Jd Z X R nL Q rc rs nx lv (.int (f i.toNatClampNeg) :: st) ws) : Jd Z X R nL Q rc rs pc lv (.int i :: .ref a :: st) ws := by
  obtain ⟨d, rfl⟩ := d
  intro ls H locs cells slots hc hs hl hP hD hS
  exact va_zald C.1 C.2.1 C.2.2.2.2.2.1.1 hP q0 8 he rfl hin d (k9 ls H locs cells slots hc hs hl hP hD hS)
theorem J_lald {Z : GZ} {X : CX} {R : Room} {nL : Nat} {Q : State → Prop} {rc rs pc nx : Nat} {lv : List (Nat × Value)} {st : List Value} {ws : va_W} {cc : ByteArray} {own : String} {a n : Nat} {f : Nat → Int64} {i : Int32} (q0 : Nat) (C : Cx Z X cc nL own) (d : dI cc pc (.laload) 1 nx) (he : ws[q0]? = some (a, .inl (zA Z 1, n, .inr (.inl f)))) (hin : vp_in i n) (k9 : Jd Z X R nL Q rc rs nx lv (.long (f i.toNatClampNeg) :: st) ws) : Jd Z X R nL Q rc rs pc lv (.int i :: .ref a :: st) ws := by
  obtain ⟨d, rfl⟩ := d
  intro ls H locs cells slots hc hs hl hP hD hS
  exact va_lald C.1 C.2.1 C.2.2.2.2.2.1.1 hP q0 1 he rfl hin d (k9 ls H locs cells slots hc hs hl hP hD hS)
theorem J_aaldL {Z : GZ} {X : CX} {R : Room} {nL : Nat} {Q : State → Prop} {rc rs pc nx : Nat} {lv : List (Nat × Value)} {st : List Value} {ws : va_W} {cc : ByteArray} {own : String} {a n : Nat} {f : Nat → Option Nat} {i : Int32} (q0 : Nat) (C : Cx Z X cc nL own) (d : dI cc pc (.aaload) 1 nx) (he : ws[q0]? = some (a, .inl (zA Z 3, n, .inr (.inr (.inr (.inr f)))))) (hin : vp_in i n) (k9 : Jd Z X R nL Q rc rs nx lv (va_rf (f i.toNatClampNeg) :: st) ws) : Jd Z X R nL Q rc rs pc lv (.int i :: .ref a :: st) ws := by
  obtain ⟨d, rfl⟩ := d
  intro ls H locs cells slots hc hs hl hP hD hS
  exact va_aldq C.1 C.2.1 C.2.2.2.2.2.1.1 hP q0 3 he rfl hin d (k9 ls H locs cells slots hc hs hl hP hD hS)
theorem J_aaldK {Z : GZ} {X : CX} {R : Room} {nL : Nat} {Q : State → Prop} {rc rs pc nx : Nat} {lv : List (Nat × Value)} {st : List Value} {ws : va_W} {cc : ByteArray} {own : String} {a n : Nat} {f : Nat → Option Nat} {i : Int32} (q0 : Nat) (C : Cx Z X cc nL own) (d : dI cc pc (.aaload) 1 nx) (he : ws[q0]? = some (a, .inl (zA Z 4, n, .inr (.inr (.inr (.inr f)))))) (hin : vp_in i n) (k9 : Jd Z X R nL Q rc rs nx lv (va_rf (f i.toNatClampNeg) :: st) ws) : Jd Z X R nL Q rc rs pc lv (.int i :: .ref a :: st) ws := by
  obtain ⟨d, rfl⟩ := d
  intro ls H locs cells slots hc hs hl hP hD hS
  exact va_aldq C.1 C.2.1 C.2.2.2.2.2.1.1 hP q0 4 he rfl hin d (k9 ls H locs cells slots hc hs hl hP hD hS)
theorem J_aaldT {Z : GZ} {X : CX} {R : Room} {nL : Nat} {Q : State → Prop} {rc rs pc nx : Nat} {lv : List (Nat × Value)} {st : List Value} {ws : va_W} {cc : ByteArray} {own : String} {a n : Nat} {f : Nat → Option Nat} {i : Int32} (q0 : Nat) (C : Cx Z X cc nL own) (d : dI cc pc (.aaload) 1 nx) (he : ws[q0]? = some (a, .inl (zA Z 5, n, .inr (.inr (.inr (.inr f)))))) (hin : vp_in i n) (k9 : Jd Z X R nL Q rc rs nx lv (va_rf (f i.toNatClampNeg) :: st) ws) : Jd Z X R nL Q rc rs pc lv (.int i :: .ref a :: st) ws := by
  obtain ⟨d, rfl⟩ := d
  intro ls H locs cells slots hc hs hl hP hD hS
  exact va_aldq C.1 C.2.1 C.2.2.2.2.2.1.1 hP q0 5 he rfl hin d (k9 ls H locs cells slots hc hs hl hP hD hS)
theorem J_aaldS {Z : GZ} {X : CX} {R : Room} {nL : Nat} {Q : State → Prop} {rc rs pc nx : Nat} {lv : List (Nat × Value)} {st : List Value} {ws : va_W} {cc : ByteArray} {own : String} {a n : Nat} {f : Nat → Option Nat} {i : Int32} (q0 : Nat) (C : Cx Z X cc nL own) (d : dI cc pc (.aaload) 1 nx) (he : ws[q0]? = some (a, .inl (zA Z 7, n, .inr (.inr (.inr (.inr f)))))) (hin : vp_in i n) (k9 : Jd Z X R nL Q rc rs nx lv (va_rf (f i.toNatClampNeg) :: st) ws) : Jd Z X R nL Q rc rs pc lv (.int i :: .ref a :: st) ws := by
  obtain ⟨d, rfl⟩ := d
  intro ls H locs cells slots hc hs hl hP hD hS
  exact va_aldq C.1 C.2.1 C.2.2.2.2.2.1.1 hP q0 7 he rfl hin d (k9 ls H locs cells slots hc hs hl hP hD hS)
theorem J_iast {Z : GZ} {X : CX} {R : Room} {nL : Nat} {Q : State → Prop} {rc rs pc nx : Nat} {lv : List (Nat × Value)} {st : List Value} {ws : va_W} {cc : ByteArray} {own : String} {a n : Nat} {f : Nat → Int32} {i : Int32} {x : Int32} (ws2 : va_W) (q0 : Nat) (C : Cx Z X cc nL own) (d : dI cc pc (.iastore) 1 nx) (he : ws[q0]? = some (a, .inl (zA Z 0, n, .inl f))) (hin : vp_in i n) (h2 : ws.set q0 (a, .inl (zA Z 0, n, .inl (upd f i.toNatClampNeg x))) = ws2) (k9 : Jd Z X R nL Q rc rs nx lv (st) ws2) : Jd Z X R nL Q rc rs pc lv (.int x :: .int i :: .ref a :: st) ws := by
  obtain ⟨d, rfl⟩ := d
  subst h2
  intro ls H locs cells slots hc hs hl hP hD hS
  exact va_iast C.1 C.2.1 C.2.2.2.2.2.1.1 hP hD hS q0 0 he rfl hin d (fun H1 locs1 hP1 hD1 hS1 => k9 ls H1 locs1 cells slots hc hs hl hP1 hD1 hS1)
theorem J_bast {Z : GZ} {X : CX} {R : Room} {nL : Nat} {Q : State → Prop} {rc rs pc nx : Nat} {lv : List (Nat × Value)} {st : List Value} {ws : va_W} {cc : ByteArray} {own : String} {a n : Nat} {f : Nat → Int32} {i : Int32} {x : Int32} (ws2 : va_W) (q0 : Nat) (C : Cx Z X cc nL own) (d : dI cc pc (.bastore) 1 nx) (he : ws[q0]? = some (a, .inl (zA Z 2, n, .inl f))) (hin : vp_in i n) (h2 : ws.set q0 (a, .inl (zA Z 2, n, .inl (upd f i.toNatClampNeg (vp_nar .byte x)))) = ws2) (k9 : Jd Z X R nL Q rc rs nx lv (st) ws2) : Jd Z X R nL Q rc rs pc lv (.int x :: .int i :: .ref a :: st) ws := by
  obtain ⟨d, rfl⟩ := d
  subst h2
  intro ls H locs cells slots hc hs hl hP hD hS
  exact va_bast C.1 C.2.1 C.2.2.2.2.2.1.1 hP hD hS q0 2 he rfl hin d (fun H1 locs1 hP1 hD1 hS1 => k9 ls H1 locs1 cells slots hc hs hl hP1 hD1 hS1)
theorem J_zast {Z : GZ} {X : CX} {R : Room} {nL : Nat} {Q : State → Prop} {rc rs pc nx : Nat} {lv : List (Nat × Value)} {st : List Value} {ws : va_W} {cc : ByteArray} {own : String} {a n : Nat} {f : Nat → Int32} {i : Int32} {x : Int32} (ws2 : va_W) (q0 : Nat) (C : Cx Z X cc nL own) (d : dI cc pc (.bastore) 1 nx) (he : ws[q0]? = some (a, .inl (zA Z 8, n, .inl f))) (hin : vp_in i n) (h2 : ws.set q0 (a, .inl (zA Z 8, n, .inl (upd f i.toNatClampNeg (vp_nar .boolean x)))) = ws2) (k9 : Jd Z X R nL Q rc rs nx lv (st) ws2) : Jd Z X R nL Q rc rs pc lv (.int x :: .int i :: .ref a :: st) ws := by
  obtain ⟨d, rfl⟩ := d
  subst h2
  intro ls H locs cells slots hc hs hl hP hD hS
  exact va_zast C.1 C.2.1 C.2.2.2.2.2.1.1 hP hD hS q0 8 he rfl hin d (fun H1 locs1 hP1 hD1 hS1 => k9 ls H1 locs1 cells slots hc hs hl hP1 hD1 hS1)
theorem J_last {Z : GZ} {X : CX} {R : Room} {nL : Nat} {Q : State → Prop} {rc rs pc nx : Nat} {lv : List (Nat × Value)} {st : List Value} {ws : va_W} {cc : ByteArray} {own : String} {a n : Nat} {f : Nat → Int64} {i : Int32} {x : Int64} (ws2 : va_W) (q0 : Nat) (C : Cx Z X cc nL own) (d : dI cc pc (.lastore) 1 nx) (he : ws[q0]? = some (a, .inl (zA Z 1, n, .inr (.inl f)))) (hin : vp_in i n) (h2 : ws.set q0 (a, .inl (zA Z 1, n, .inr (.inl (vp_updL f i.toNatClampNeg x)))) = ws2) (k9 : Jd Z X R nL Q rc rs nx lv (st) ws2) : Jd Z X R nL Q rc rs pc lv (.long x :: .int i :: .ref a :: st) ws := by
  obtain ⟨d, rfl⟩ := d
  subst h2
  intro ls H locs cells slots hc hs hl hP hD hS
  exact va_last C.1 C.2.1 C.2.2.2.2.2.1.1 hP hD hS q0 1 he rfl hin d (fun H1 locs1 hP1 hD1 hS1 => k9 ls H1 locs1 cells slots hc hs hl hP1 hD1 hS1)
theorem J_alen {Z : GZ} {X : CX} {R : Room} {nL : Nat} {Q : State → Prop} {rc rs pc nx : Nat} {lv : List (Nat × Value)} {st : List Value} {ws : va_W} {cc : ByteArray} {own : String} {a t0 : Nat} {cA0 : ClassId} {x : vp_A} {ty : FieldType} (v : Int32) (q0 : Nat) (C : Cx Z X cc nL own) (d : dI cc pc .arraylength 1 nx) (he : ws[q0]? = some (a, .inl (cA0, x))) (ht : (tysZ Z)[t0]? = some (cA0, ty)) (hv : Int32.ofNat x.1 = v) (k9 : Jd Z X R nL Q rc rs nx lv (.int v :: st) ws) : Jd Z X R nL Q rc rs pc lv (.ref a :: st) ws := by
  obtain ⟨d, rfl⟩ := d
  intro ls H locs cells slots hc hs hl hP hD hS
  exact va_alen C.1 C.2.1 C.2.2.2.2.2.1.1 hP q0 t0 he ht hv d (k9 ls H locs cells slots hc hs hl hP hD hS)
theorem J_sub {Z : GZ} {X : CX} {R : Room} {nL : Nat} {Q : State → Prop} {rc rs pc : Nat} {lv : List (Nat × Value)} {st : List Value} {ws : va_W} (ws2 : va_W) (is : List Nat) (hn : va_nd is = true) (h : is.map (fun i => ws[i]?) = ws2.map some) (k : Jd Z X R nL Q rc rs pc lv (st) ws2) : Jd Z X R nL Q rc rs pc lv (st) ws := by
  intro ls H locs cells slots hc hs hl hP hD hS
  exact k ls H locs cells slots hc hs hl (hP.sub is (fm_of h)) (hD.sub is hn h) hS
theorem J_st {Z : GZ} {X : CX} {R : Room} {nL : Nat} {Q : State → Prop} {rc rs pc : Nat} {lv : List (Nat × Value)} {st : List Value} {ws : va_W} (st2 : List Value) (h : st = st2) (k : Jd Z X R nL Q rc rs pc lv (st2) ws) : Jd Z X R nL Q rc rs pc lv (st) ws := h ▸ k
theorem J_lv {Z : GZ} {X : CX} {R : Room} {nL : Nat} {Q : State → Prop} {rc rs pc : Nat} {lv : List (Nat × Value)} {st : List Value} {ws : va_W} (lv2 : List (Nat × Value)) (h : ∀ q ∈ lv2, lv.lookup q.1 = some q.2) (k : Jd Z X R nL Q rc rs pc lv2 (st) ws) : Jd Z X R nL Q rc rs pc lv (st) ws := by
  intro ls H locs cells slots hc hs hl hP hD hS
  exact k ls H locs cells slots hc hs ⟨hl.1, hl.2.1, fun q hq => lv_get hl (h q hq)⟩ hP hD hS
theorem J_room {Z : GZ} {X : CX} {R : Room} {nL : Nat} {Q : State → Prop} {rc rs pc : Nat} {lv : List (Nat × Value)} {st : List Value} {ws : va_W} {rc2 rs2 : Nat} (h1 : rc2 ≤ rc) (h2 : rs2 ≤ rs) (k : Jd Z X R nL Q rc2 rs2 pc lv (st) ws) : Jd Z X R nL Q rc rs pc lv (st) ws := by
  intro ls H locs cells slots hc hs hl hP hD hS
  exact k ls H locs cells slots (by omega) (by omega) hl hP hD hS
theorem J_iret {Z : GZ} {X : CX} {R : Room} {nL : Nat} {K : Option Value → va_W → Prop} {rc rs pc nx : Nat} {lv : List (Nat × Value)} {ws : va_W} {cc : ByteArray} {own nm : String} {v : Int32} (C : Cx Z X cc nL own) (E : Cr X (some .int) nm) (d : dI cc pc .ireturn 1 nx)  (h : K (some (.int v)) ws) : Jd Z X R nL (QM Z X R K) rc rs pc lv [.int v] ws := by
  intro ls H locs cells slots hc hs hl hP hD hS
  refine W.widen (k := R.cells) (n := R.slots) (by omega) (by omega) ?_
  exact W.iret C.1 C.2.1 E.1  (fun t ht hW => ⟨⟨_, ws, rfl, h, by rw [ht]; exact hP, hD⟩, hS.F ht⟩) hS.2.2 d.1 (hlocks := E.2.1)
theorem J_zret {Z : GZ} {X : CX} {R : Room} {nL : Nat} {K : Option Value → va_W → Prop} {rc rs pc nx : Nat} {lv : List (Nat × Value)} {ws : va_W} {cc : ByteArray} {own nm : String} {v : Int32} (C : Cx Z X cc nL own) (E : Cr X (some .boolean) nm) (d : dI cc pc .ireturn 1 nx) (hv : narrow .boolean (.int v) = .int v) (h : K (some (.int v)) ws) : Jd Z X R nL (QM Z X R K) rc rs pc lv [.int v] ws := by
  intro ls H locs cells slots hc hs hl hP hD hS
  refine W.widen (k := R.cells) (n := R.slots) (by omega) (by omega) ?_
  exact W.zret C.1 C.2.1 E.1 hv (fun t ht hW => ⟨⟨_, ws, rfl, h, by rw [ht]; exact hP, hD⟩, hS.F ht⟩) hS.2.2 d.1 (hlocks := E.2.1)
theorem J_lret {Z : GZ} {X : CX} {R : Room} {nL : Nat} {K : Option Value → va_W → Prop} {rc rs pc nx : Nat} {lv : List (Nat × Value)} {ws : va_W} {cc : ByteArray} {own nm : String} {v : Int64} (C : Cx Z X cc nL own) (E : Cr X (some .long) nm) (d : dI cc pc .lreturn 1 nx)  (h : K (some (.long v)) ws) : Jd Z X R nL (QM Z X R K) rc rs pc lv [.long v] ws := by
  intro ls H locs cells slots hc hs hl hP hD hS
  refine W.widen (k := R.cells) (n := R.slots) (by omega) (by omega) ?_
  exact W.lret C.1 C.2.1 E.1  (fun t ht hW => ⟨⟨_, ws, rfl, h, by rw [ht]; exact hP, hD⟩, hS.F ht⟩) hS.2.2 d.1 (hlocks := E.2.1)
theorem J_vret {Z : GZ} {X : CX} {R : Room} {nL : Nat} {K : Option Value → va_W → Prop} {rc rs pc nx : Nat} {lv : List (Nat × Value)} {ws : va_W} {cc : ByteArray} {own nm : String}  (C : Cx Z X cc nL own) (E : Cr X (none) nm) (d : dI cc pc .return_ 1 nx)  (h : K (none) ws) : Jd Z X R nL (QM Z X R K) rc rs pc lv [] ws := by
  intro ls H locs cells slots hc hs hl hP hD hS
  refine W.widen (k := R.cells) (n := R.slots) (by omega) (by omega) ?_
  exact W.vret C.1 C.2.1 E.1  (fun t ht hW => ⟨⟨_, ws, rfl, h, by rw [ht]; exact hP, hD⟩, hS.F ht⟩) hS.2.2 d.1 (hlocks := E.2.1)
theorem J_aret {Z : GZ} {X : CX} {R : Room} {nL : Nat} {K : Option Value → va_W → Prop} {rc rs pc nx : Nat} {lv : List (Nat × Value)} {ws : va_W} {cc : ByteArray} {own nm : String} {v : Nat} {rt : FieldType} (C : Cx Z X cc nL own) (E : Cr X (some rt) nm) (d : dI cc pc .areturn 1 nx) (hrt : (∃ n, rt = .object n) ∨ ∃ t, rt = .array t) (h : K (some (.ref v)) ws) : Jd Z X R nL (QM Z X R K) rc rs pc lv [.ref v] ws := by
  intro ls H locs cells slots hc hs hl hP hD hS
  refine W.widen (k := R.cells) (n := R.slots) (by omega) (by omega) ?_
  exact W.aret C.1 C.2.1 E.1 hrt (Or.inr ⟨v, rfl⟩) (fun t ht hW => ⟨⟨_, ws, rfl, h, by rw [ht]; exact hP, hD⟩, hS.F ht⟩) hS.2.2 d.1 (hlocks := E.2.1)
theorem J_aretN {Z : GZ} {X : CX} {R : Room} {nL : Nat} {K : Option Value → va_W → Prop} {rc rs pc nx : Nat} {lv : List (Nat × Value)} {ws : va_W} {cc : ByteArray} {own nm : String} {rt : FieldType} (C : Cx Z X cc nL own) (E : Cr X (some rt) nm) (d : dI cc pc .areturn 1 nx) (hrt : (∃ n, rt = .object n) ∨ ∃ t, rt = .array t) (h : K (some .null) ws) : Jd Z X R nL (QM Z X R K) rc rs pc lv [.null] ws := by
  intro ls H locs cells slots hc hs hl hP hD hS
  refine W.widen (k := R.cells) (n := R.slots) (by omega) (by omega) ?_
  exact W.aret C.1 C.2.1 E.1 hrt (Or.inl rfl) (fun t ht hW => ⟨⟨_, ws, rfl, h, by rw [ht]; exact hP, hD⟩, hS.F ht⟩) hS.2.2 d.1 (hlocks := E.2.1)
