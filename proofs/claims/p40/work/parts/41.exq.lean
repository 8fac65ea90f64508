/-! Contracts that may throw: nothing is changed where they throw. -/
theorem va_D_iff {A : Nat → Prop} {ws : va_W} : va_D A ws ↔ (ws.map Prod.fst).Nodup ∧ ∀ q ∈ ws, A q.1 := by
  constructor
  · rintro ⟨h1, h2⟩
    refine ⟨?_, fun q hq => ?_⟩
    · rw [List.Nodup, List.pairwise_iff_getElem]
      intro i j hi hj hij e
      rw [List.length_map] at hi hj
      have e2 : ws[i].1 = ws[j].1 := by simpa using e
      have := h1 i j _ _ (List.getElem?_eq_getElem hi) (List.getElem?_eq_getElem hj) e2
      omega
    · obtain ⟨k, hk⟩ := List.mem_iff_getElem?.mp hq
      exact h2 k q hk
  · rintro ⟨h1, h2⟩
    refine ⟨fun i j p q hi hj e => ?_, fun k q hk => h2 q (List.mem_of_getElem? hk)⟩
    rw [List.Nodup, List.pairwise_iff_getElem] at h1
    obtain ⟨li, ei⟩ := List.getElem?_eq_some_iff.mp hi
    obtain ⟨lj, ej⟩ := List.getElem?_eq_some_iff.mp hj
    rcases Nat.lt_trichotomy i j with c | c | c
    · exact ((h1 i j (by simpa using li) (by simpa using lj) c) (by rw [List.getElem_map, List.getElem_map, ei, ej]; exact e)).elim
    · exact c
    · exact ((h1 j i (by simpa using lj) (by simpa using li) c) (by rw [List.getElem_map, List.getElem_map, ei, ej]; exact e.symm)).elim
theorem J_perm {Z : GZ} {X : CX} {R : Room} {nL : Nat} {Q : State → Prop} {rc rs pc : Nat} {lv : List (Nat × Value)} {st : List Value} {ws : va_W} (ws2 : va_W) (h : ws.Perm ws2) (k : Jd Z X R nL Q rc rs pc lv st ws2) : Jd Z X R nL Q rc rs pc lv st ws := by
  intro ls H locs cells slots hc hs hl hP hD hS
  refine k ls H locs cells slots hc hs hl ?_ ?_ hS
  · intro i q hi
    obtain ⟨j, hj⟩ := List.mem_iff_getElem?.mp (h.mem_iff.mpr (List.mem_of_getElem? hi))
    exact hP j q hj
  · rw [va_D_iff] at hD ⊢
    exact ⟨(h.map Prod.fst).nodup_iff.mp hD.1, fun q hq => hD.2 q (h.mem_iff.mpr hq)⟩
/-- two neighbours change their places -/
theorem sw_perm (wa A B wb : va_W) : (((wa ++ A) ++ B) ++ wb).Perm (((wa ++ B) ++ A) ++ wb) := by
  apply List.Perm.append_right
  rw [List.append_assoc, List.append_assoc]
  exact List.perm_append_comm.append_left wa
def XQ (Z : GZ) (A : Nat → Prop) (KX : String → Prop) (w0 : va_W) : String → State → State → Prop := fun E st t => KX E ∧ va_P Z.1 vwCl w0 t.heap ∧ va_D A w0 ∧ va_F A st t
def QX (Z : GZ) (X : CX) (R : Room) (K : Option Value → va_W → Prop) (KX : String → Prop) (w0 : va_W) : State → Prop :=
  vx_MQ (cB X) (fun _ st o t => (∃ v w1, o = .returned v ∧ K v w1 ∧ va_P Z.1 vwCl w1 t.heap ∧ va_D (cF X) w1) ∧ va_F (cF X) st t) (XQ Z (cF X) KX w0) (cA X) (cS X) R.cells R.slots (cF X)
/-- a contract of a member that may throw -/
def Cq (Z : GZ) (l : Launch) (y : MethodName) (cc : ByteArray) (nL : Nat) (ret : Option FieldType) (R : Room) (av : List Value) (w0 : va_W) (K : Option Value → va_W → Prop) (KX : String → Prop) : Prop :=
  ∀ sz : Nat, vx_Met l y (Cond.code y cc nL ret :: TSg) R (va_Pc av (fun U => U.heap.size = sz ∧ va_P Z.1 vwCl w0 U.heap ∧ KW Z U ∧ va_D (fun _ => True) w0 ∧ SF Z (va_A w0 sz) U U.heap))
    (fun _ st o t => (∃ v w1, o = .returned v ∧ K v w1 ∧ va_P Z.1 vwCl w1 t.heap ∧ va_D (va_A w0 sz) w1) ∧ va_F (va_A w0 sz) st t) (XQ Z (va_A w0 sz) KX w0) R.cells R.slots (va_A w0 sz)
theorem Cq.weaken {Z : GZ} {l : Launch} {y : MethodName} {cc : ByteArray} {nL : Nat} {ret : Option FieldType} {R : Room} {av : List Value} {w0 : va_W} {K K' : Option Value → va_W → Prop} {KX KX' : String → Prop} (h : Cq Z l y cc nL ret R av w0 K KX) (hK : ∀ v w1, K v w1 → K' v w1) (hX : ∀ E, KX E → KX' E) : Cq Z l y cc nL ret R av w0 K' KX' := by
  intro sz p e a b c s m args below h1 h2 h3 h4
  obtain ⟨n, o, g1, g2, g3, g4⟩ := h sz p e a b c s m args below h1 h2 h3 h4
  refine ⟨n, o, g1, g2, g3, ?_⟩
  rcases g4 with ⟨⟨⟨v, w1, k1, k2, k3⟩, k4⟩, k5⟩ | ⟨q, e1, E, ce, L, ⟨x1, x2⟩, x3⟩
  · exact Or.inl ⟨⟨⟨v, w1, k1, hK v w1 k2, k3⟩, k4⟩, k5⟩
  · exact Or.inr ⟨q, e1, E, ce, L, ⟨hX E x1, x2⟩, x3⟩
/-- no rows of handlers -/
def NX (X : CX) : Prop := ∀ x ∈ (cC X).exceptionTable.toList, False
theorem Cq.ofJ {Z : GZ} {l : Launch} {y : MethodName} {cc : ByteArray} {nL : Nat} {ret : Option FieldType} {R : Room} {av : List Value} {w0 : va_W} {K : Option Value → va_W → Prop} {KX : String → Prop} {own nm : String} {lv0 : List (Nat × Value)} (hy : plainName y.cls = true) (hown : y.cls = own) (hnm : y.name = nm) (hav : (lg_sl av).length ≤ nL) (hlv : lv_args 0 av = lv0)
    (body : ∀ X : CX, cL X = l → Cx Z X cc nL own → Cr X ret nm → NX X → Jd Z X R nL (QX Z X R K KX w0) R.cells R.slots 0 lv0 [] w0) : Cq Z l y cc nL ret R av w0 K KX := by
  intro sz
  refine vx_ofW (cc := cc) (maxL := nL) (ret := ret) hy rfl ?_
  intro p e s m args below meth c s₁ B hml hE hv
  obtain ⟨rfl, hsz, hP, hK, hD0, hSF⟩ := hv
  subst hsz
  have hts := atoms_spec (ws := Cond.code y cc nL ret :: TSg) B.pre
  have hcls : s.vm.findClass own = some m.cls := hown ▸ findClass_of_methodNamed B.named
  have hname : meth.name = nm := hnm ▸ (name_of_methodNamed B.named B.method).1
  have hl := lv_entry av (n := nL) hav
  rw [hlv] at hl
  rw [lg_entry_eq]
  exact body (p, l, e, s, m, av.toArray, below, meth, c, va_A w0 s.heap.size) rfl ⟨B.exec, B.bytes, hml, hcls, fun w hw => hts w (List.mem_cons_of_mem _ hw), hK, hSF, fun q h => Or.inr h⟩ ⟨B.returns, B.notSynchronized, hname⟩ hE _ _ [] 0 0 (by omega) (by omega) hl hP hD0.self va_S.rf
theorem J_x2m {Z : GZ} {X : CX} {R : Room} {nL : Nat} {K : Option Value → va_W → Prop} {KX : String → Prop} {w0 : va_W} {rc rs pc : Nat} {lv : List (Nat × Value)} {st : List Value} {ws : va_W} (k : Jd Z X R nL (QM Z X R K) rc rs pc lv st ws) : Jd Z X R nL (QX Z X R K KX w0) rc rs pc lv st ws :=
  fun ls H locs cells slots hc hs hl hP hD hS => vx_ret (k ls H locs cells slots hc hs hl hP hD hS)
/-- the words of a throw stand in the table -/
def HAT (own : String) (ic : Nat) (cls : String) : Prop := ∀ w ∈ vx_atS own ic cls ["java/lang/RuntimeException", "java/lang/Exception"], w ∈ TSg ∨ (w ∈ NWs ∧ w.onTables = true)
theorem nw_use {w : Cond} {s : State} {args : Array Value} (hw : w ∈ NWs) (hot : w.onTables = true) (h : NW s) : w.before args s = true := va_Nw.use hot (h w hw)
theorem nw_ot {w : Cond} (h3 : w.onTables = true) : vx_ot w = true := by simp [vx_ot, h3]
theorem ts_ot {w : Cond} (hw : w ∈ TSg) : vx_ot w = true := by simp [vx_ot, tsg_good w hw]
theorem J_throw {Z : GZ} {X : CX} {R : Room} {nL : Nat} {K : Option Value → va_W → Prop} {KX : String → Prop} {w0 ws : va_W} {rc rs pc p3 p4 p6 p9 p10 ik is ic : Nat} {lv : List (Nat × Value)} {cc : ByteArray} {own cls text : String} {ret : Option FieldType} {nm : String}
    (C : Cx Z X cc nL own) (hl : (cL X).stackTraces = false) (E : Cr X ret nm) (hT : NX X) (d0 : dI cc pc (.new ik) 3 p3) (d3 : dI cc p3 .dup 1 p4) (d4 : dI cc p4 (.ldc is) 2 p6) (d6 : dI cc p6 (.invokespecial ic) 3 p9) (d9 : dI cc p9 .athrow 1 p10)
    (hk : Cond.classLink own ik cls ∈ TSg) (hini : Cond.initialized cls ∈ TSg) (hst : (own, is, text) ∈ strTab) (hat : HAT own ic cls) (hfit : Bundle.fit cls = true) (hroom : 5 < R.frames ∧ 82 ≤ R.locals) (hrc : 1 ≤ rc) (hrs : 6 ≤ rs) (hx : KX cls) (hws : ws = w0) : Jd Z X R nL (QX Z X R K KX w0) rc rs pc lv [] ws := by
  subst hws
  obtain ⟨d0, rfl⟩ := d0
  obtain ⟨d3, rfl⟩ := d3
  obtain ⟨d4, rfl⟩ := d4
  obtain ⟨d6, rfl⟩ := d6
  obtain ⟨d9, -⟩ := d9
  intro ls H locs cells slots hc hs hl2 hP hD hS
  obtain ⟨sa, hsa⟩ := C.2.2.2.2.2.1.2.2.1 _ hst
  have hSF := C.2.2.2.2.2.2.1
  refine vx_throwS (names := ["java/lang/RuntimeException", "java/lang/Exception"]) (A := cF X) C.1 C.2.1 hl C.2.2.2.1 hfit (by decide) (C.2.2.2.2.1 _ hk) (C.2.2.2.2.1 _ hini) hsa (fun w hw => (hat w hw).elim (fun h => C.2.2.2.2.1 _ h) (fun h => nw_use h.1 h.2 C.2.2.2.2.2.1.2.1)) ?_ hSF.2.2.2.2.2.2.2.2.2.1 hSF.2.2.2.2.2.2.2.2.2.2 hS (by rw [hl2.1]; exact C.2.2.1.symm) d0 d3 d4 d6 d9 (fun x h => (hT x h).elim) hroom.1 (by simp; omega) (by omega) (by omega) E.2.1 ?_ hS.2.2 (by omega) (by omega)
  · intro w hw
    rcases List.mem_cons.mp hw with rfl | hw
    · exact ts_ot hk
    · rcases List.mem_cons.mp hw with rfl | hw
      · exact ts_ot hini
      · exact (hat w hw).elim ts_ot (fun h => nw_ot h.2)
  · intro t hA hsz hkp
    refine ⟨hx, hP.kept (fun k q hq => hkp q.1 (vx_lt hP hq)), hD, ?_⟩
    exact ⟨Nat.le_trans hS.1 hsz, fun q h1 h2 => by rw [hkp q (Nat.lt_of_lt_of_le h1 hS.1)]; exact hS.2.1 q h1 h2⟩
