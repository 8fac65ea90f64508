/-! The law's layer: calls of the law's own members with handlers, calls in them, the script. -/
/-- what no handler of another class takes -/
def vnTab : List (String × String) := [("java/lang/IllegalStateException", "java/lang/IndexOutOfBoundsException"), ("java/lang/IllegalArgumentException", "java/lang/IndexOutOfBoundsException"), ("java/lang/IllegalStateException", "java/lang/IllegalArgumentException"), ("java/lang/IllegalArgumentException", "java/lang/IllegalStateException"), ("java/lang/IndexOutOfBoundsException", "java/lang/IllegalArgumentException"), ("java/lang/IndexOutOfBoundsException", "java/lang/IllegalStateException")]
def VN (U : State) : Prop := ∀ r ∈ vnTab, va_Nc r.1 r.2 U
theorem VN.moved {u U : State} (hvm : u.vm.Alike U.vm) (h : VN u) : VN U := fun r hr => va_Nc.moved hvm (h r hr)
/-- a contract of a member with handlers -/
def CtL (Z : GZ) (l : Launch) (y : MethodName) (cc : ByteArray) (nL : Nat) (ret : Option FieldType) (hh : List (Nat × Nat × Nat × Nat)) (R : Room) (av : List Value) (w0 : va_W) (K : Option Value → va_W → Prop) : Prop :=
  ∀ sz : Nat, Met l y (Cond.codeWith y cc nL ret hh :: TSg) R (va_Pc av (fun U => U.heap.size = sz ∧ va_P Z.1 vwCl w0 U.heap ∧ KW Z U ∧ va_D (fun _ => True) w0 ∧ SF Z (va_A w0 sz) U U.heap ∧ VN U))
    (fun _ st o t => (∃ v w1, o = .returned v ∧ K v w1 ∧ va_P Z.1 vwCl w1 t.heap ∧ va_D (va_A w0 sz) w1) ∧ va_F (va_A w0 sz) st t) R.cells R.slots (va_A w0 sz)
theorem Met.ofWH {l : Launch} {y : MethodName} {ws ws' : List Cond} {rm : Room} {Pc : Array Value → State → Prop} {Qc : Array Value → State → Outcome → State → Prop} {mc ms : Nat} {free : Addr → Prop} {cc : ByteArray} {maxL : Nat} {ret : Option FieldType} {hh : List (Nat × Nat × Nat × Nat)}
    (hy : plainName y.cls = true) (hw : ws = Cond.codeWith y cc maxL ret hh :: ws')
    (body : ∀ p e s m args below meth c s₁, BodyLoose p l y (headSpec ws rm) cc maxL ret e s m args below meth c s₁ → c.maxLocals = maxL → Pc args s →
      W p l e (headSpec ws rm).room s m args below meth c s.heap [] 0 0 (MQ below Qc args s mc ms free) (entryFrame m args maxL)) : Met l y ws rm Pc Qc mc ms free := by
  refine MetFree.of_bodyS (code := cc) (maxLocals := maxL) (ret := ret) hy ?_ ?_
  · intro args s m h hn
    obtain ⟨m9, meth, c, hn9, h1, h2, h3, h4, -, h5, h6, -⟩ := Cond.codeWith_spec (atoms_spec (ws := ws) h _ (by rw [hw]; exact List.mem_cons_self))
    cases hn.symm.trans hn9
    exact ⟨meth, c, h1, h2, h3, h4, h5, h6⟩
  · intro p e s m args below meth c s₁ B hml hP _
    have hh0 : s₁.heap = s.heap := by rw [B.state]; rfl
    obtain ⟨t, a1, o, b1, b2, b3⟩ := body p e s m args below meth c s₁ B hml hP s₁ hh0 (Stand.of_body B)
    exact ⟨t, o, a1, b1, b2, ⟨b3.1, b3.2⟩⟩
theorem CtL.ofJ {Z : GZ} {l : Launch} {y : MethodName} {cc : ByteArray} {nL : Nat} {ret : Option FieldType} {hh : List (Nat × Nat × Nat × Nat)} {R : Room} {av : List Value} {w0 : va_W} {K : Option Value → va_W → Prop} {own nm : String} {lv0 : List (Nat × Value)} (hy : plainName y.cls = true) (hown : y.cls = own) (hnm : y.name = nm) (hav : (lg_sl av).length ≤ nL) (hlv : lv_args 0 av = lv0)
    (body : ∀ X : CX, cL X = l → Cx Z X cc nL own → Cr X ret nm → (cC X).exceptionTable.toList = tableOf hh → VN (cS X) → Jd Z X R nL (QM Z X R K) R.cells R.slots 0 lv0 [] w0) : CtL Z l y cc nL ret hh R av w0 K := by
  intro sz
  refine Met.ofWH (cc := cc) (maxL := nL) (ret := ret) hy rfl ?_
  intro p e s m args below meth c s₁ B hml hv
  obtain ⟨rfl, hsz, hP, hK, hD0, hSF, hVN⟩ := hv
  subst hsz
  have hts := atoms_spec (ws := Cond.codeWith y cc nL ret hh :: TSg) B.pre
  have hcls : s.vm.findClass own = some m.cls := hown ▸ findClass_of_methodNamed B.named
  have hname : meth.name = nm := hnm ▸ (name_of_methodNamed B.named B.method).1
  have htab := vx_table (x := y) B (hts _ List.mem_cons_self)
  have hl := lv_entry av (n := nL) hav
  rw [hlv] at hl
  rw [lg_entry_eq]
  exact body (p, l, e, s, m, av.toArray, below, meth, c, va_A w0 s.heap.size) rfl ⟨B.exec, B.bytes, hml, hcls, fun w hw => hts w (List.mem_cons_of_mem _ hw), hK, hSF, fun q h => Or.inr h⟩ ⟨B.returns, B.notSynchronized, hname⟩ htab hVN _ _ [] 0 0 (by omega) (by omega) hl hP hD0.self va_S.rf
theorem pc_blindL {Z : GZ} {av : List Value} {w0 : va_W} {sz : Nat} : FrameBlind (va_Pc av (fun U => U.heap.size = sz ∧ va_P Z.1 vwCl w0 U.heap ∧ KW Z U ∧ va_D (fun _ => True) w0 ∧ SF Z (va_A w0 sz) U U.heap ∧ VN U)) := by
  rintro a U g mk ⟨h0, h1, h2, h3, h4, h5, h6⟩
  exact ⟨h0, h1, h2, KW.same (u := U) (U := U.calling g mk a) rfl h3, h4, SF.moved (u := U) (U := U.calling g mk a) (Vm.Alike.refl U.vm) h5, VN.moved (u := U) (U := U.calling g mk a) (Vm.Alike.refl U.vm) h6⟩
/-- the callee with handlers, by the tables -/
def YCW (y : MethodName) (cb : ByteArray) (nB : Nat) (ret : Option FieldType) (hh : List (Nat × Nat × Nat × Nat)) (nP : Nat) : Prop := Cond.initialized y.cls ∈ TSg ∧ Cond.codeWith y cb nB ret hh ∈ TSg ∧ (y.cls ≠ "java/lang/invoke/MethodHandle" ∧ y.cls ≠ "java/lang/invoke/VarHandle" ∧ (parseMethodDescriptor y.desc).map (fun d => d.parameters.length) = some nP)
theorem J_cSL {Z : GZ} {X : CX} {R : Room} {nL : Nat} {Q : State → Prop} {rc rs pc nx : Nat} {lv : List (Nat × Value)} {st : List Value} {ws : va_W} {cc : ByteArray} {own : String} {rc2 rs2 idx nB nP : Nat} {y : MethodName} {cb : ByteArray} {hh : List (Nat × Nat × Nat × Nat)} {w0 : va_W} {K : Option Value → va_W → Prop} {rmB : Room} {As : List Value} {ret : Option FieldType} (C : Cx Z X cc nL own) (hV : VN (cS X)) (d : dI cc pc (.invokestatic idx) 3 nx) (Lm : LkM own idx y) (Ly : YCW y cb nB ret hh nP) (Ls : YS y) (hM : CtL Z (cL X) y cb nB ret hh rmB As w0 K) (wa wb : va_W) (hw : ws = (wa ++ w0) ++ wb) (hlen : As.length = nP) (hroom : rmB.frames + 1 ≤ R.frames ∧ 8 + (nB + 11) + rmB.locals ≤ R.locals) (hst : (st.map fun v => v.category).sum ≤ 8) (hrc : rc = rmB.cells + rc2) (hrs : rs = rmB.slots + rs2) (k : ∀ v w1, K v w1 → Jd Z X R nL Q rc2 rs2 nx lv (v.toList ++ st) ((wa ++ w1) ++ wb)) : Jd Z X R nL Q rc rs pc lv (As.reverse ++ st) ws := by
  obtain ⟨d, rfl⟩ := d
  obtain ⟨g1, g2, g3⟩ := Ly
  subst hw
  intro ls H locs cells slots hc hs hl hP hD hS
  have hG : GoodIn TSg (va_wsS own idx y (Cond.codeWith y cb nB ret hh :: TSg)) := by
    intro w hw
    have hin : w ∈ TSg := by
      simp only [va_wsS, List.cons_append, List.nil_append, List.mem_cons] at hw
      rcases hw with rfl | rfl | rfl | rfl | hw
      · exact Lm
      · exact Ls
      · exact g1
      · exact g2
      · exact hw
    exact ⟨hin, good_of_word (tsg_good _ hin)⟩
  have hb := bpre C hP hD hS As
  have run := vx_runSW (p := cP X) (l := cL X) (R := R) (As := As) (rest := st) (g := F0 (cM X) pc ls (As.reverse ++ st)) (e := cE X) (below := cB X) (meth := cMe X) (locs := locs) (cells := cells) (slots := slots) ⟨C.1, C.2.1, C.2.2.1, C.2.2.2.1, C.2.2.2.2.1⟩ (hM H.size) (vx_cwSW nP C.2.2.2.2.1 hG rfl rfl rfl g3 hroom) ⟨pc_blindL, fun U hU hW => by
    obtain ⟨a1, a2, a3, a4, a5, a6⟩ := hb U hU hW
    exact ⟨a1, a2, a3, a4, a5, a6, hV.moved hW.alike⟩⟩ rfl hlen hl.1 rfl (lv_room hst) d ⟨by omega, by omega⟩
  exact bend (a := As.toArray) C hrc hrs hc hs hl hP hD hS rfl run k
/-- who takes a throw of class E at pc -/
def CatchOk (own : String) (tab : List ExceptionTableEntry) (pc : Nat) (E : String) (hp : Nat) : Prop :=
  ∃ (pre : List ExceptionTableEntry) (x : ExceptionTableEntry) (suf : List ExceptionTableEntry) (name : String), tab = pre ++ x :: suf ∧ (∀ z ∈ pre, z.catchType ≠ 0 ∧ ∃ nm : String, Cond.classLink own z.catchType nm ∈ TSg ∧ (E, nm) ∈ vnTab) ∧ covers x pc = true ∧ x.catchType ≠ 0 ∧ Cond.classLink own x.catchType name ∈ TSg ∧ Cond.castable E name ∈ NWs ∧ x.handlerPc = hp
/-- a call of a member that may throw, in a member with handlers -/
theorem J_tryV {Z : GZ} {X : CX} {R : Room} {nL : Nat} {Q : State → Prop} {rc rs pc nx : Nat} {lv : List (Nat × Value)} {st : List Value} {ws : va_W} {cc : ByteArray} {own : String} {rc2 rs2 idx nB nP : Nat} {y : MethodName} {cb : ByteArray} {w0 : va_W} {K : Option Value → va_W → Prop} {KX : String → Prop} {rmB : Room} {As : List Value} {ret : Option FieldType} {b q0 ci : Nat} {fs : List Value} {r : vw_C} {tab : List ExceptionTableEntry} (C : Cx Z X cc nL own) (hV : VN (cS X)) (hT : (cC X).exceptionTable.toList = tab) (d : dI cc pc (.invokevirtual idx) 3 nx) (Lm : LkM own idx y) (Ly : YC y cb nB ret nP) (Lv : YV y) (hM : Cq Z (cL X) y cb nB ret rmB (.ref b :: As) w0 K KX) (hcl : vwCl[ci]? = some r) (hr : r.1 = y.cls) (hq : w0[q0]? = some (b, .inr (ci, fs))) (wa wb : va_W) (hw : ws = (wa ++ w0) ++ wb) (hlen : As.length = nP) (hroom : rmB.frames + 1 ≤ R.frames ∧ 8 + (nB + 11) + rmB.locals ≤ R.locals) (hst : (st.map fun v => v.category).sum ≤ 8) (hrc : rc = rmB.cells + rc2) (hrs : rs = rmB.slots + rs2) (k : ∀ v w1, K v w1 → Jd Z X R nL Q rc2 rs2 nx lv (v.toList ++ st) ((wa ++ w1) ++ wb))
    (kx : ∀ E, KX E → ∃ hp, CatchOk own tab pc E hp ∧ ∀ q : Nat, Jd Z X R nL Q rc2 rs2 hp lv [.ref q] ws) : Jd Z X R nL Q rc rs pc lv (As.reverse ++ .ref b :: st) ws := by
  obtain ⟨d, rfl⟩ := d
  obtain ⟨g1, g2, g3⟩ := Ly
  subst hw
  intro ls H locs cells slots hc hs hl hP hD hS
  have run := vx_runV (As := As) (rest := st) (g := F0 (cM X) pc ls (As.reverse ++ .ref b :: st)) (e := cE X) (below := cB X) (meth := cMe X) (locs := locs) (cells := cells) (slots := slots) ⟨C.1, C.2.1, C.2.2.1, C.2.2.2.1, C.2.2.2.2.1⟩ (hM H.size) (C := y.cls) ⟨callB_of nP C.2.2.2.2.1 (good_ts g2) rfl rfl rfl (C.2.2.2.2.1 _ g1) (C.2.2.2.2.1 _ Lm) g3 hroom, C.2.2.2.2.1 _ Lv.1, C.2.2.2.2.1 _ Lv.2⟩ ⟨pc_blind, hr ▸ va_recv C.2.2.2.2.2.1.1 (blk_P hP) hcl hq, bpre C hP hD hS _⟩ rfl hlen hl.1 rfl (lv_room hst) d ⟨by omega, by omega⟩
  have hF := blk_F hD hS C.2.2.2.2.2.2.2
  intro T hT9 Xs
  have hS9 : ∀ (st₀ t T' : State) (L : List Loc), st₀.heap = H → T'.heap = t.heap → (∀ q ∈ L, va_A w0 H.size q.base) → va_F (va_A w0 H.size) st₀ t → va_S (cF X) (cS X).heap T'.heap (locs ++ L) := by
    rintro st₀ t T' L h0 e1 hL ⟨hz, hk⟩
    rw [h0] at hz hk
    exact ⟨Nat.le_trans hS.1 (by rw [e1]; exact hz), fun q h1 h2 => by rw [e1, hk q (Nat.lt_of_lt_of_le h1 hS.1) (fun z => h2 (hF q z))]; exact hS.2.1 q h1 h2, fun q hq => by
      rcases List.mem_append.mp hq with h | h
      · exact hS.2.2 q h
      · exact hF _ (hL q h)⟩
  rcases run T hT9 Xs with ⟨v, st₀, t, T', L, h0, X', hL, e1, e2, ⟨⟨v', w1, hv, hK, hP1, hD1⟩, hFr⟩, go⟩ | ⟨q, st₀, t, T', L, Ec, ce, h0, X', hL, e1, e2, ⟨hkx, hP1, hD1, hFr⟩, hce, hcv, hcl9, go⟩
  · cases hv
    have hS' := hS9 st₀ t T' L h0 e1 hL hFr
    obtain ⟨hz, hk⟩ := hFr
    rw [h0] at hz hk
    obtain ⟨hP', hD'⟩ := va_joinB (H1 := T'.heap) hP hD (fun q h1 h2 => by rw [e1]; exact hk q h1 h2) hF (by rw [e1]; exact hP1) hD1
    obtain ⟨t2, a1, b1⟩ := k v w1 hK ls T'.heap (locs ++ L) (cells + rmB.cells) (slots + rmB.slots) (by omega) (by omega) hl hP' hD' hS' T' rfl X'
    exact ⟨t2, go t2 a1, b1⟩
  · have hS' := hS9 st₀ t T' L h0 e1 hL hFr
    obtain ⟨hz, hk⟩ := hFr
    rw [h0] at hz hk
    obtain ⟨hP', hD'⟩ := va_joinB (H1 := T'.heap) hP hD (fun q h1 h2 => by rw [e1]; exact hk q h1 h2) hF (by rw [e1]; exact hP1) hD1
    obtain ⟨hp, ⟨pre, x, suf, name, c1, c2, c3, c4, c5, c6, c7⟩, kq⟩ := kx Ec hkx
    subst c7
    have hw := vx_catch (p := cP X) (l := cL X) (e := cE X) (R := R) (s := cS X) (m := cM X) (args := cA X) (below := cB X) (meth := cMe X) (c := cC X) (H := T'.heap) (locs := locs ++ L) (cells := cells + rmB.cells) (slots := slots + rmB.slots) (Q := Q) (pc := pc) (ls := ls) (rest := st) C.2.2.2.1 pre x suf (hT.trans c1)
      (fun z hz => Or.inr ⟨(c2 z hz).1, by obtain ⟨nm, n1, n2⟩ := (c2 z hz).2; exact ⟨nm, C.2.2.2.2.1 _ n1, hV _ n2⟩⟩) c3 c4 (C.2.2.2.2.1 _ c5) (nw_use c6 rfl C.2.2.2.2.2.1.2.1) (by rw [e1]; exact hce) hcv hcl9
      (kq q ls T'.heap (locs ++ L) (cells + rmB.cells) (slots + rmB.slots) (by omega) (by omega) hl hP' hD' hS')
    obtain ⟨t2, a1, b1⟩ := hw T' rfl X'
    exact ⟨t2, go.trans a1, b1⟩
/-- more room than is needed -/
theorem J_less {Z : GZ} {X : CX} {R : Room} {nL : Nat} {Q : State → Prop} {rc rs pc : Nat} {lv : List (Nat × Value)} {st : List Value} {ws : va_W} (rc2 rs2 : Nat) (h1 : rc2 ≤ rc) (h2 : rs2 ≤ rs) (k : Jd Z X R nL Q rc2 rs2 pc lv st ws) : Jd Z X R nL Q rc rs pc lv st ws :=
  fun ls H locs cells slots hc hs hl hP hD hS => k ls H locs cells slots (by omega) (by omega) hl hP hD hS
/-- the law's script at b: nobody writes there -/
def Sc (X : CX) (b L : Nat) (xs : Nat → Int32) : Prop := va_X b L xs (cS X) (cS X).heap ∧ b < (cS X).heap.size ∧ ¬ cF X b
theorem J_sld {Z : GZ} {X : CX} {R : Room} {nL : Nat} {Q : State → Prop} {rc rs pc nx : Nat} {lv : List (Nat × Value)} {st : List Value} {ws : va_W} {cc : ByteArray} {own : String} {b L : Nat} {xs : Nat → Int32} {i : Int32} (C : Cx Z X cc nL own) (S : Sc X b L xs) (d : dI cc pc .iaload 1 nx) (hi : vp_in i L) (k : Jd Z X R nL Q rc rs nx lv (.int (xs i.toNatClampNeg) :: st) ws) : Jd Z X R nL Q rc rs pc lv (.int i :: .ref b :: st) ws := by
  obtain ⟨d, rfl⟩ := d
  intro ls H locs cells slots hc hs hl hP hD hS
  exact va_sld C.1 C.2.1 S.1 S.2.1 S.2.2 hS hi d (k ls H locs cells slots hc hs hl hP hD hS)
theorem J_slen {Z : GZ} {X : CX} {R : Room} {nL : Nat} {Q : State → Prop} {rc rs pc nx : Nat} {lv : List (Nat × Value)} {st : List Value} {ws : va_W} {cc : ByteArray} {own : String} {b L : Nat} {xs : Nat → Int32} (C : Cx Z X cc nL own) (S : Sc X b L xs) (d : dI cc pc .arraylength 1 nx) (k : Jd Z X R nL Q rc rs nx lv (.int (nI L) :: st) ws) : Jd Z X R nL Q rc rs pc lv (.ref b :: st) ws := by
  obtain ⟨d, rfl⟩ := d
  intro ls H locs cells slots hc hs hl hP hD hS
  exact va_slen C.1 C.2.1 S.1 S.2.1 S.2.2 hS d (k ls H locs cells slots hc hs hl hP hD hS)
theorem J_dstore {Z : GZ} {X : CX} {R : Room} {nL : Nat} {Q : State → Prop} {rc rs pc nx : Nat} {lv : List (Nat × Value)} {st : List Value} {ws : va_W} {cc : ByteArray} {own : String} {i : Nat} {x : UInt64} (lv2 : List (Nat × Value)) (C : Cx Z X cc nL own) (d : dI cc pc (.dstore i) 2 nx) (hn : i + 1 < nL) (h : (i, Value.double x) :: lv.filter (fun q => !(q.1 == i) && (!(q.1 == i + 1) && !(q.1 + 1 == i && q.2.category == 2))) = lv2) (k9 : Jd Z X R nL Q rc rs nx lv2 (st) ws) : Jd Z X R nL Q rc rs pc lv (.double x :: st) ws := by
  obtain ⟨d, rfl⟩ := d
  intro ls H locs cells slots hc hs hl hP hD hS
  exact lv_dstore C.1 C.2.1 d hl hn h (fun ls2 hl2 => k9 ls2 H locs cells slots hc hs hl2 hP hD hS)
theorem J_dload {Z : GZ} {X : CX} {R : Room} {nL : Nat} {Q : State → Prop} {rc rs pc nx : Nat} {lv : List (Nat × Value)} {st : List Value} {ws : va_W} {cc : ByteArray} {own : String} {i : Nat} {x : UInt64} (C : Cx Z X cc nL own) (d : dI cc pc (.dload i) 2 nx) (h : lv.lookup i = some (.double x)) (k9 : Jd Z X R nL Q rc rs nx lv (.double x :: st) ws) : Jd Z X R nL Q rc rs pc lv (st) ws := by
  obtain ⟨d, rfl⟩ := d
  intro ls H locs cells slots hc hs hl hP hD hS
  exact lv_dload C.1 C.2.1 d (lv_get hl h) (k9 ls H locs cells slots hc hs hl hP hD hS)
theorem J_dcmp {Z : GZ} {X : CX} {R : Room} {nL : Nat} {Q : State → Prop} {rc rs pc nx : Nat} {lv : List (Nat × Value)} {st : List Value} {ws : va_W} {cc : ByteArray} {own : String} {x y : UInt64} {op : CmpOp} (C : Cx Z X cc nL own) (d : dI cc pc (.dcmp op) 1 nx) (k9 : Jd Z X R nL Q rc rs nx lv (.int (Op.cmpValue (FP.dcmp x y) op) :: st) ws) : Jd Z X R nL Q rc rs pc lv (.double y :: .double x :: st) ws := by
  obtain ⟨d, rfl⟩ := d
  intro ls H locs cells slots hc hs hl hP hD hS
  exact lv_dcmp C.1 C.2.1 d (k9 ls H locs cells slots hc hs hl hP hD hS)
