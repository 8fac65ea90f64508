/-- one that throws gives the world back as it was -/
theorem bendx {Z : GZ} {X : CX} {R : Room} {nL : Nat} {K2 : Option Value → va_W → Prop} {KX2 : String → Prop} {rc rs rc2 rs2 pc nx : Nat} {lv : List (Nat × Value)} {st st0 : List Value} {wa wb w0 : va_W} {cc : ByteArray} {own : String} {ret2 : Option FieldType} {nm : String} (C : Cx Z X cc nL own) (E : Cr X ret2 nm) (hT : NX X) {K : Option Value → va_W → Prop} {KX : String → Prop} {rmB : Room} {a : Array Value} {H : Heap} {locs : List Loc} {cells slots : Nat} {ls : Array Slot}
    (hrc : rc = rmB.cells + rc2) (hrs : rs = rmB.slots + rs2)
    (hc : cells + rc ≤ R.cells) (hs : slots + rs ≤ R.slots) (hl : lv_has ls nL lv) (hP : va_P Z.1 vwCl ((wa ++ w0) ++ wb) H) (hD : va_D (cF X) ((wa ++ w0) ++ wb)) (hS : va_S (cF X) (cS X).heap H locs) (hnx : pc + 3 = nx) (hKX : ∀ E, KX E → KX2 E)
    (run : vx_Run (cP X) (cL X) (cE X) R (cS X) (cM X) (cA X) (cB X) (cMe X) (cC X) H locs cells slots rmB.cells rmB.slots (F0 (cM X) pc ls st0) st ((fun _ st o t => (∃ v w1, o = .returned v ∧ K v w1 ∧ va_P Z.1 vwCl w1 t.heap ∧ va_D (va_A w0 H.size) w1) ∧ va_F (va_A w0 H.size) st t) a) (XQ Z (va_A w0 H.size) KX w0) (va_A w0 H.size))
    (k : ∀ v w1, K v w1 → Jd Z X R nL (QX Z X R K2 KX2 ((wa ++ w0) ++ wb)) rc2 rs2 nx lv (v.toList ++ st) ((wa ++ w1) ++ wb)) :
    W (cP X) (cL X) (cE X) R (cS X) (cM X) (cA X) (cB X) (cMe X) (cC X) H locs cells slots (QX Z X R K2 KX2 ((wa ++ w0) ++ wb)) (F0 (cM X) pc ls st0) := by
  have hF := blk_F hD hS C.2.2.2.2.2.2.2
  intro T hT9 Xs
  have hS9 : ∀ (st₀ t T' : State) (L : List Loc), st₀.heap = H → T'.heap = t.heap → (∀ q ∈ L, va_A w0 H.size q.base) → va_F (va_A w0 H.size) st₀ t → va_S (cF X) (cS X).heap T'.heap (locs ++ L) := by
    rintro st₀ t T' L h0 e1 hL ⟨hz, hk⟩
    rw [h0] at hz hk
    exact ⟨Nat.le_trans hS.1 (by rw [e1]; exact hz), fun q h1 h2 => by rw [e1, hk q (Nat.lt_of_lt_of_le h1 hS.1) (fun z => h2 (hF q z))]; exact hS.2.1 q h1 h2, fun q hq => by
      rcases List.mem_append.mp hq with h | h
      · exact hS.2.2 q h
      · exact hF _ (hL q h)⟩
  rcases run T hT9 Xs with ⟨v, st₀, t, T', L, h0, X', hL, e1, e2, ⟨⟨v', w1, hv, hK, hP1, hD1⟩, hFr⟩, go⟩ | ⟨q, st₀, t, T', L, Ec, ce, h0, X', hL, e1, e2, ⟨kx, hP1, hD1, hFr⟩, hce, hcv, hcl, go⟩
  · cases hv
    have hS' := hS9 st₀ t T' L h0 e1 hL hFr
    obtain ⟨hz, hk⟩ := hFr
    rw [h0] at hz hk
    obtain ⟨hP', hD'⟩ := va_joinB (H1 := T'.heap) hP hD (fun q h1 h2 => by rw [e1]; exact hk q h1 h2) hF (by rw [e1]; exact hP1) hD1
    subst hnx
    obtain ⟨t2, a1, b1⟩ := k v w1 hK ls T'.heap (locs ++ L) (cells + rmB.cells) (slots + rmB.slots) (by omega) (by omega) hl hP' hD' hS' T' rfl X'
    exact ⟨t2, go t2 a1, b1⟩
  · have hS' := hS9 st₀ t T' L h0 e1 hL hFr
    obtain ⟨hz, hk⟩ := hFr
    rw [h0] at hz hk
    obtain ⟨hP', hD'⟩ := va_joinB (H1 := T'.heap) hP hD (fun q h1 h2 => by rw [e1]; exact hk q h1 h2) hF (by rw [e1]; exact hP1) hD1
    have ho := vx_out (p := cP X) (l := cL X) (e := cE X) (R := R) (s := cS X) (m := cM X) (args := cA X) (below := cB X) (meth := cMe X) (c := cC X) (H := T'.heap) (locs := locs ++ L) (cells := cells + rmB.cells) (slots := slots + rmB.slots) (free := cF X) (ls := ls) (rest := st)
      (Qc := fun _ st o t => (∃ v w1, o = .returned v ∧ K2 v w1 ∧ va_P Z.1 vwCl w1 t.heap ∧ va_D (cF X) w1) ∧ va_F (cF X) st t) (XC := XQ Z (cF X) KX2 ((wa ++ w0) ++ wb)) (pc := pc) (E := Ec) (ce := ce) (q := q) (mc := R.cells) (ms := R.slots) (fun x h => (hT x h).elim) E.2.1 (by rw [e1]; exact hce) hcv hcl
      (fun t9 h9 _ => ⟨hKX _ kx, by rw [h9]; exact hP', hD', by rw [h9]; exact hS'.1, fun q h1 h2 => by rw [h9]; exact hS'.2.1 q h1 h2⟩) hS'.2.2 (by omega) (by omega)
    obtain ⟨t2, a1, b1⟩ := ho T' rfl X'
    exact ⟨t2, go.trans a1, b1⟩
theorem J_xV {Z : GZ} {X : CX} {R : Room} {nL : Nat} {K2 : Option Value → va_W → Prop} {KX2 : String → Prop} {rc rs pc nx : Nat} {lv : List (Nat × Value)} {st : List Value} {ws w00 : va_W} {cc : ByteArray} {own : String} {rc2 rs2 idx nB nP : Nat} {y : MethodName} {cb : ByteArray} {w0 : va_W} {K : Option Value → va_W → Prop} {KX : String → Prop} {rmB : Room} {As : List Value} {ret ret2 : Option FieldType} {nm : String} {b q0 ci : Nat} {fs : List Value} {r : vw_C} (C : Cx Z X cc nL own) (E : Cr X ret2 nm) (hT : NX X) (d : dI cc pc (.invokevirtual idx) 3 nx) (Lm : LkM own idx y) (Ly : YC y cb nB ret nP) (Lv : YV y) (hM : Cq Z (cL X) y cb nB ret rmB (.ref b :: As) w0 K KX) (hcl : vwCl[ci]? = some r) (hr : r.1 = y.cls) (hq : w0[q0]? = some (b, .inr (ci, fs))) (wa wb : va_W) (hw : ws = (wa ++ w0) ++ wb) (hw0 : ws = w00) (hKX : ∀ E, KX E → KX2 E) (hlen : As.length = nP) (hroom : rmB.frames + 1 ≤ R.frames ∧ 8 + (nB + 11) + rmB.locals ≤ R.locals) (hst : (st.map fun v => v.category).sum ≤ 8) (hrc : rc = rmB.cells + rc2) (hrs : rs = rmB.slots + rs2) (k : ∀ v w1, K v w1 → Jd Z X R nL (QX Z X R K2 KX2 w00) rc2 rs2 nx lv (v.toList ++ st) ((wa ++ w1) ++ wb)) : Jd Z X R nL (QX Z X R K2 KX2 w00) rc rs pc lv (As.reverse ++ .ref b :: st) ws := by
  obtain ⟨d, rfl⟩ := d
  obtain ⟨g1, g2, g3⟩ := Ly
  subst hw0
  subst hw
  intro ls H locs cells slots hc hs hl hP hD hS
  have run := vx_runV (As := As) (rest := st) (g := F0 (cM X) pc ls (As.reverse ++ .ref b :: st)) (e := cE X) (below := cB X) (meth := cMe X) (locs := locs) (cells := cells) (slots := slots) ⟨C.1, C.2.1, C.2.2.1, C.2.2.2.1, C.2.2.2.2.1⟩ (hM H.size) (C := y.cls) ⟨callB_of nP C.2.2.2.2.1 (good_ts g2) rfl rfl rfl (C.2.2.2.2.1 _ g1) (C.2.2.2.2.1 _ Lm) g3 hroom, C.2.2.2.2.1 _ Lv.1, C.2.2.2.2.1 _ Lv.2⟩ ⟨pc_blind, hr ▸ va_recv C.2.2.2.2.2.1.1 (blk_P hP) hcl hq, bpre C hP hD hS _⟩ rfl hlen hl.1 rfl (lv_room hst) d ⟨by omega, by omega⟩
  exact bendx (a := #[]) C E hT hrc hrs hc hs hl hP hD hS rfl hKX run k
theorem J_xS {Z : GZ} {X : CX} {R : Room} {nL : Nat} {K2 : Option Value → va_W → Prop} {KX2 : String → Prop} {rc rs pc nx : Nat} {lv : List (Nat × Value)} {st : List Value} {ws w00 : va_W} {cc : ByteArray} {own : String} {rc2 rs2 idx nB nP : Nat} {y : MethodName} {cb : ByteArray} {w0 : va_W} {K : Option Value → va_W → Prop} {KX : String → Prop} {rmB : Room} {As : List Value} {ret ret2 : Option FieldType} {nm : String} (C : Cx Z X cc nL own) (E : Cr X ret2 nm) (hT : NX X) (d : dI cc pc (.invokestatic idx) 3 nx) (Lm : LkM own idx y) (Ly : YC y cb nB ret nP) (Ls : YS y) (hM : Cq Z (cL X) y cb nB ret rmB (As) w0 K KX)  (wa wb : va_W) (hw : ws = (wa ++ w0) ++ wb) (hw0 : ws = w00) (hKX : ∀ E, KX E → KX2 E) (hlen : As.length = nP) (hroom : rmB.frames + 1 ≤ R.frames ∧ 8 + (nB + 11) + rmB.locals ≤ R.locals) (hst : (st.map fun v => v.category).sum ≤ 8) (hrc : rc = rmB.cells + rc2) (hrs : rs = rmB.slots + rs2) (k : ∀ v w1, K v w1 → Jd Z X R nL (QX Z X R K2 KX2 w00) rc2 rs2 nx lv (v.toList ++ st) ((wa ++ w1) ++ wb)) : Jd Z X R nL (QX Z X R K2 KX2 w00) rc rs pc lv (As.reverse ++ st) ws := by
  obtain ⟨d, rfl⟩ := d
  obtain ⟨g1, g2, g3⟩ := Ly
  subst hw0
  subst hw
  intro ls H locs cells slots hc hs hl hP hD hS
  have run := vx_runS (As := As) (rest := st) (g := F0 (cM X) pc ls (As.reverse ++ st)) (e := cE X) (below := cB X) (meth := cMe X) (locs := locs) (cells := cells) (slots := slots) ⟨C.1, C.2.1, C.2.2.1, C.2.2.2.1, C.2.2.2.2.1⟩ (hM H.size) ⟨callB_of nP C.2.2.2.2.1 (good_ts g2) rfl rfl rfl (C.2.2.2.2.1 _ g1) (C.2.2.2.2.1 _ Lm) g3 hroom, C.2.2.2.2.1 _ Ls⟩ ⟨pc_blind, bpre C hP hD hS _⟩ rfl hlen hl.1 rfl (lv_room hst) d ⟨by omega, by omega⟩
  exact bendx (a := #[]) C E hT hrc hrs hc hs hl hP hD hS rfl hKX run k
/-- the words, by their places in the table -/
def hatB (is : List Nat) (ws : List Cond) : Bool := decide (ws.map some = is.map (fun i => lw_tbl[i]?)) && ws.all (fun w => goodWord w || (nwOk w && w.onTables))
theorem hat_of {own cls : String} {ic : Nat} (is : List Nat) (h : hatB is (vx_atS own ic cls ["java/lang/RuntimeException", "java/lang/Exception"]) = true) : HAT own ic cls := by
  intro w hw
  simp only [hatB, Bool.and_eq_true, decide_eq_true_eq, List.all_eq_true, Bool.or_eq_true] at h
  have h1 : some w ∈ is.map (fun i => lw_tbl[i]?) := h.1 ▸ List.mem_map.mpr ⟨w, hw, rfl⟩
  obtain ⟨i, -, hi⟩ := List.mem_map.mp h1
  rcases h.2 w hw with g | ⟨g, g2⟩
  · exact Or.inl (tsg_in hi g)
  · exact Or.inr ⟨nws_in hi g, g2⟩
theorem hat_70 : HAT RX8 70 "java/lang/IllegalStateException" := hat_of [57, 381, 390, 394, 397, 399, 382, 383, 69, 70, 384, 389, 395, 415, 371, 416, 373, 417, 375, 385, 387, 377, 411, 412, 414, 377, 402, 403, 404, 405, 363, 405, 406, 407, 408, 365, 408, 409, 410, 411, 367, 401, 360, 361, 368, 369, 370, 372, 374, 376, 380, 379, 378] (by decide +kernel)
theorem hat_81 : HAT RX8 81 "java/lang/IllegalArgumentException" := hat_of [57, 381, 390, 394, 397, 399, 382, 383, 69, 70, 384, 389, 395, 415, 371, 416, 373, 417, 375, 385, 387, 377, 411, 412, 414, 377, 578, 579, 580, 405, 363, 405, 406, 407, 408, 365, 408, 409, 410, 411, 367, 577, 568, 569, 570, 392, 571, 572, 573, 574, 380, 379, 575] (by decide +kernel)
theorem hat_233 : HAT RX8 233 "java/lang/IndexOutOfBoundsException" := hat_of [57, 381, 390, 394, 397, 399, 382, 383, 69, 70, 384, 389, 395, 415, 371, 416, 373, 417, 375, 385, 387, 377, 411, 412, 414, 377, 454, 455, 456, 405, 363, 405, 406, 407, 408, 365, 408, 409, 410, 411, 367, 453, 444, 445, 446, 393, 447, 448, 449, 450, 380, 379, 451] (by decide +kernel)
