/-! Texts: length and charAt of the words. -/
theorem J_nret {Z : GZ} {X : CX} {R : Room} {nL : Nat} {K : Option Value → va_W → Prop} {rc rs pc nx : Nat} {lv : List (Nat × Value)} {ws : va_W} {cc : ByteArray} {own nm : String} {v : Int32} {ty : FieldType} (C : Cx Z X cc nL own) (E : Cr X (some ty) nm) (d : dI cc pc .ireturn 1 nx) (hv : narrow ty (.int v) = .int v) (h : K (some (.int v)) ws) : Jd Z X R nL (QM Z X R K) rc rs pc lv [.int v] ws := by
  intro ls H locs cells slots hc hs hl hP hD hS
  refine W.widen (k := R.cells) (n := R.slots) (by omega) (by omega) ?_
  exact W.zret C.1 C.2.1 E.1 hv (fun t ht hW => ⟨⟨_, ws, rfl, h, by rw [ht]; exact hP, hD⟩, hS.F ht⟩) hS.2.2 d.1 (hlocks := E.2.1)
theorem J_getsCS {Z : GZ} {X : CX} {R : Room} {nL : Nat} {Q : State → Prop} {rc rs pc nx : Nat} {lv : List (Nat × Value)} {st : List Value} {ws : va_W} {cc : ByteArray} {own : String} {idx : Nat} (C : Cx Z X cc nL own) (d : dI cc pc (.getstatic idx) 3 nx) (g : Cond.fieldLink own idx "java/lang/String" "COMPACT_STRINGS" "Z" ∈ TSg) (k9 : Jd Z X R nL Q rc rs nx lv (.int 1 :: st) ws) : Jd Z X R nL Q rc rs pc lv st ws := by
  obtain ⟨d, rfl⟩ := d
  intro ls H locs cells slots hc hs hl hP hD hS
  exact va_gets C.1 C.2.1 C.2.2.2.2.2.2.1.2.2.2.2.2.2.2.1 hS C.2.2.2.1 (C.2.2.2.2.1 _ g) (fun _ h9 => h9) d (k9 ls H locs cells slots hc hs hl hP hD hS)
theorem J_getsFm {Z : GZ} {X : CX} {R : Room} {nL : Nat} {Q : State → Prop} {rc rs pc nx : Nat} {lv : List (Nat × Value)} {st : List Value} {ws : va_W} {cc : ByteArray} {own : String} {idx : Nat} (C : Cx Z X cc nL own) (d : dI cc pc (.getstatic idx) 3 nx) (g : Cond.fieldLink own idx "jdk/internal/util/Preconditions" "SIOOBE_FORMATTER" "Ljava/util/function/BiFunction;" ∈ TSg) (kn : Jd Z X R nL Q rc rs nx lv (.null :: st) ws) (kr : ∀ t : Nat, Jd Z X R nL Q rc rs nx lv (.ref t :: st) ws) : Jd Z X R nL Q rc rs pc lv st ws := by
  obtain ⟨d, rfl⟩ := d
  intro ls H locs cells slots hc hs hl hP hD hS
  rcases C.2.2.2.2.2.2.1.2.2.2.2.2.2.2.2.1 with h | ⟨t, h⟩
  · exact va_gets C.1 C.2.1 h hS C.2.2.2.1 (C.2.2.2.2.1 _ g) (fun _ h9 => h9) d (kn ls H locs cells slots hc hs hl hP hD hS)
  · exact va_gets C.1 C.2.1 h hS C.2.2.2.1 (C.2.2.2.2.1 _ g) (fun _ h9 => h9) d (kr t ls H locs cells slots hc hs hl hP hD hS)
theorem J_getCoder {Z : GZ} {X : CX} {R : Room} {nL : Nat} {Q : State → Prop} {rc rs pc nx : Nat} {lv : List (Nat × Value)} {st : List Value} {ws : va_W} {cc : ByteArray} {own : String} {idx i : Nat} (C : Cx Z X cc nL own) (d : dI cc pc (.getfield idx) 3 nx) (hi : i < 24) (g : Cond.fieldLink own idx "java/lang/String" "coder" "B" ∈ TSg) (k9 : Jd Z X R nL Q rc rs nx lv (.int 0 :: st) ws) : Jd Z X R nL Q rc rs pc lv (.ref (zsk Z i) :: st) ws := by
  obtain ⟨d, rfl⟩ := d
  intro ls H locs cells slots hc hs hl hP hD hS
  exact vk_getf C.1 C.2.1 (C.2.2.2.2.2.2.1.2.2.2.2.2.2.1.1 i hi).2.1 hS C.2.2.2.1 (C.2.2.2.2.1 _ g) (fun _ h9 => h9) d (k9 ls H locs cells slots hc hs hl hP hD hS)
theorem J_getValue {Z : GZ} {X : CX} {R : Room} {nL : Nat} {Q : State → Prop} {rc rs pc nx : Nat} {lv : List (Nat × Value)} {st : List Value} {ws : va_W} {cc : ByteArray} {own : String} {idx i : Nat} (C : Cx Z X cc nL own) (d : dI cc pc (.getfield idx) 3 nx) (hi : i < 24) (g : Cond.fieldLink own idx "java/lang/String" "value" "[B" ∈ TSg) (k9 : Jd Z X R nL Q rc rs nx lv (.ref (zsv Z i) :: st) ws) : Jd Z X R nL Q rc rs pc lv (.ref (zsk Z i) :: st) ws := by
  obtain ⟨d, rfl⟩ := d
  intro ls H locs cells slots hc hs hl hP hD hS
  exact vk_getf C.1 C.2.1 (C.2.2.2.2.2.2.1.2.2.2.2.2.2.1.1 i hi).2.2.1 hS C.2.2.2.1 (C.2.2.2.2.1 _ g) (fun _ h9 => h9) d (k9 ls H locs cells slots hc hs hl hP hD hS)
theorem J_alenS {Z : GZ} {X : CX} {R : Room} {nL : Nat} {Q : State → Prop} {rc rs pc nx : Nat} {lv : List (Nat × Value)} {st : List Value} {ws : va_W} {cc : ByteArray} {own : String} {i : Nat} (C : Cx Z X cc nL own) (d : dI cc pc .arraylength 1 nx) (hi : i < 24) (k9 : Jd Z X R nL Q rc rs nx lv (.int (nI (wLen.getD i 0)) :: st) ws) : Jd Z X R nL Q rc rs pc lv (.ref (zsv Z i) :: st) ws :=
  J_alenC (nI (wLen.getD i 0)) C d (C.2.2.2.2.2.2.1.2.2.2.2.2.2.1.1 i hi).2.2.2 rfl k9
theorem wLen_le : ∀ i, i < 24 → wLen.getD i 0 ≤ 6 := by decide
theorem yc_J0_coder_7d493 : YC yJ0_coder_7d493 cJ0_coder_7d493 1 (some .byte) 0 := ⟨tsg_in (i := 116) (by decide +kernel) rfl, tsg_in (i := 1399) (by decide +kernel) rfl, by decide, by decide, by decide +kernel⟩
theorem yv_J0_coder_7d493 : YV yJ0_coder_7d493 := ⟨tsg_in (i := 1397) (by decide +kernel) rfl, tsg_in (i := 1398) (by decide +kernel) rfl⟩
theorem yc_J0_charAt_5068e : YC yJ0_charAt_5068e cJ0_charAt_5068e 2 (some .char) 1 := ⟨tsg_in (i := 116) (by decide +kernel) rfl, tsg_in (i := 1405) (by decide +kernel) rfl, by decide, by decide, by decide +kernel⟩
theorem yv_J0_charAt_5068e : YV yJ0_charAt_5068e := ⟨tsg_in (i := 1403) (by decide +kernel) rfl, tsg_in (i := 1404) (by decide +kernel) rfl⟩
theorem yc_J1_charAt_3b067 : YC yJ1_charAt_3b067 cJ1_charAt_3b067 2 (some .char) 2 := ⟨tsg_in (i := 117) (by decide +kernel) rfl, tsg_in (i := 1412) (by decide +kernel) rfl, by decide, by decide, by decide +kernel⟩
theorem ys_J1_charAt_3b067 : YS yJ1_charAt_3b067 := tsg_in (i := 1411) (by decide +kernel) rfl
theorem J_baldS {Z : GZ} {X : CX} {R : Room} {nL : Nat} {Q : State → Prop} {rc rs pc nx : Nat} {lv : List (Nat × Value)} {st : List Value} {ws : va_W} {cc : ByteArray} {own : String} {i j : Nat} (C : Cx Z X cc nL own) (d : dI cc pc .baload 1 nx) (hi : i < 24) (hj : j < wLen.getD i 0) (hj2 : j < 1000) (k9 : Jd Z X R nL Q rc rs nx lv (.int ((wByt.getD i []).getD j 0) :: st) ws) : Jd Z X R nL Q rc rs pc lv (.int (nI j) :: .ref (zsv Z i) :: st) ws := by
  obtain ⟨d, rfl⟩ := d
  intro ls H locs cells slots hc hs hl hP hD hS
  obtain ⟨cell, h1, h2, h3, h4, h5, h6, h7⟩ := ((C.2.2.2.2.2.2.1.2.2.2.2.2.2.1.1 i hi).2.2.2).kept hS.2.1
  have h9 := wLen_le i hi
  have hin := vp_in_nI (n := j) (N := wLen.getD i 0) hj (by omega)
  have e9 : (nI j).toNatClampNeg = j := nI_clamp (by omega)
  refine W.bald (v := .int ((wByt.getD i []).getD j 0)) C.1 C.2.1 h1 h2 h3 (fun q => q.elim (fun q => hin (Or.inl q)) (fun q => ?_)) ?_ rfl rfl d (k9 ls H locs cells slots hc hs hl hP hD hS)
  · rw [e9] at q; omega
  · rw [e9]; exact h6 j hj
theorem J_cVS {Z : GZ} {X : CX} {R : Room} {nL : Nat} {Q : State → Prop} {rc rs pc nx : Nat} {lv : List (Nat × Value)} {st : List Value} {ws : va_W} {cc : ByteArray} {own : String} {idx nB nP i : Nat} {y : MethodName} {cb : ByteArray} {P0 : Option Value → Prop} {rmB : Room} {As : List Value} {ret : Option FieldType} (C : Cx Z X cc nL own) (d : dI cc pc (.invokevirtual idx) 3 nx) (Lm : LkM own idx y) (Ly : YC y cb nB ret nP) (Lv : YV y) (hM : Ct Z (cL X) y cb nB ret rmB (.ref (zsk Z i) :: As) [] (fun v w1 => P0 v ∧ w1 = [])) (hi : i < 24) (hr : y.cls = "java/lang/String") (hlen : As.length = nP) (hroom : rmB.frames + 1 ≤ R.frames ∧ 8 + (nB + 11) + rmB.locals ≤ R.locals) (hst : (st.map fun v => v.category).sum ≤ 8) (hz : rmB.cells = 0 ∧ rmB.slots = 0) (k : ∀ v, P0 v → Jd Z X R nL Q rc rs nx lv (v.toList ++ st) ws) : Jd Z X R nL Q rc rs pc lv (As.reverse ++ .ref (zsk Z i) :: st) ws := by
  obtain ⟨d, rfl⟩ := d
  obtain ⟨g1, g2, g3⟩ := Ly
  intro ls H locs cells slots hc hs hl hP hD hS
  have hP' : va_P Z.1 vwCl ((ws ++ []) ++ []) H := by simpa using hP
  have hD' : va_D (cF X) ((ws ++ []) ++ []) := by simpa using hD
  have run := va_runV (As := As) (rest := st) (g := F0 (cM X) pc ls (As.reverse ++ .ref (zsk Z i) :: st)) (e := cE X) (below := cB X) (meth := cMe X) (locs := locs) (cells := cells) (slots := slots) ⟨C.1, C.2.1, C.2.2.1, C.2.2.2.1, C.2.2.2.2.1⟩ (hM H.size) (C := y.cls) ⟨callB_of nP C.2.2.2.2.1 (good_ts g2) rfl rfl rfl (C.2.2.2.2.1 _ g1) (C.2.2.2.2.1 _ Lm) g3 hroom, C.2.2.2.2.1 _ Lv.1, C.2.2.2.2.1 _ Lv.2⟩ ⟨pc_blind, hr ▸ vk_recv C.2.2.2.2.2.2.1.2.2.2.2.2.2.1 hi hS, bpre C hP' hD' hS _⟩ rfl hlen hl.1 rfl (lv_room hst) d ⟨by omega, by omega⟩
  refine bend (a := #[]) (rc2 := rc) (rs2 := rs) C (by omega) (by omega) hc hs hl hP' hD' hS rfl run ?_
  rintro v w1 ⟨h, rfl⟩
  have e : (((ws ++ []) ++ []) : va_W) = ws := by simp
  rw [e]
  exact k v h
/-- the j-th sign of the i-th word -/
def chW (i j : Nat) : Int32 := (wByt.getD i []).getD j 0
theorem wLen_sh : ∀ i, i < 24 → nI (wLen.getD i 0) >>> ((0 : Int32) &&& 31) = nI (wLen.getD i 0) := by decide
theorem chW_c : ∀ i, i < 24 → ∀ j, j < 6 → ((chW i j &&& 255).toUInt32 % 65536).toInt32 = chW i j := by decide +kernel
theorem chW_n (i j : Nat) (hi : i < 24) (hj : j < 6) : narrow .char (.int (chW i j)) = .int (chW i j) := by
  have h := chW_c i hi j hj
  have : ∀ i, i < 24 → ∀ j, j < 6 → narrow .char (.int (chW i j)) = .int (chW i j) := by decide +kernel
  exact this i hi j hj
theorem c_J0_coder_7d493 {Z : GZ} {l : Launch} {i : Nat} (hi : i < 24) : Ct Z l yJ0_coder_7d493 cJ0_coder_7d493 1 (some .byte) (rmK 0) [.ref (zsk Z i)] [] (fun v w => v = some (.int 0) ∧ w = []) := by
  refine Ct.ofJ (own := RJ0) (nm := "coder") (lv0 := [(0, .ref (zsk Z i))]) (by decide) rfl rfl (Nat.le_of_ble_eq_true rfl) rfl (fun X hXl C E => ?_)
  subst hXl
  refine J_getsCS C iJ0_coder_7d493_0 (tsg_in (i := 1400) (by decide +kernel) rfl) ?_
  refine J_ifeq 13 C iJ0_coder_7d493_3 rfl (fun h => absurd h (by decide)) (fun _ => ?_)
  refine J_aload_n C iJ0_coder_7d493_6 rfl rfl ?_
  refine J_getCoder C iJ0_coder_7d493_7 hi (tsg_in (i := 1835) (by decide +kernel) rfl) ?_
  refine J_goto 14 C iJ0_coder_7d493_10 rfl ?_
  exact J_nret C E iJ0_coder_7d493_14 rfl ⟨rfl, rfl⟩
theorem c_J0_isLatin1_aae02 {Z : GZ} {l : Launch} {i : Nat} (hi : i < 24) : Ct Z l yJ0_isLatin1_aae02 cJ0_isLatin1_aae02 1 (some .boolean) (rmK 0) [.ref (zsk Z i)] [] (fun v w => v = some (.int 1) ∧ w = []) := by
  refine Ct.ofJ (own := RJ0) (nm := "isLatin1") (lv0 := [(0, .ref (zsk Z i))]) (by decide) rfl rfl (Nat.le_of_ble_eq_true rfl) rfl (fun X hXl C E => ?_)
  subst hXl
  refine J_getsCS C iJ0_isLatin1_aae02_0 (tsg_in (i := 1400) (by decide +kernel) rfl) ?_
  refine J_ifeq 17 C iJ0_isLatin1_aae02_3 rfl (fun h => absurd h (by decide)) (fun _ => ?_)
  refine J_aload_n C iJ0_isLatin1_aae02_6 rfl rfl ?_
  refine J_getCoder C iJ0_isLatin1_aae02_7 hi (tsg_in (i := 1835) (by decide +kernel) rfl) ?_
  refine J_ifne 17 C iJ0_isLatin1_aae02_10 rfl (fun h => absurd rfl h) (fun _ => ?_)
  refine J_iconst 1 C iJ0_isLatin1_aae02_13 rfl ?_
  refine J_goto 18 C iJ0_isLatin1_aae02_14 rfl ?_
  exact J_zret C E iJ0_isLatin1_aae02_18 rfl ⟨rfl, rfl⟩
theorem c_J0_length_8abf5 {Z : GZ} {l : Launch} {i : Nat} (hi : i < 24) : Ct Z l yJ0_length_8abf5 cJ0_length_8abf5 1 (some .int) (rmK 1) [.ref (zsk Z i)] [] (fun v w => v = some (.int (nI (wLen.getD i 0))) ∧ w = []) := by
  refine Ct.ofJ (own := RJ0) (nm := "length") (lv0 := [(0, .ref (zsk Z i))]) (by decide) rfl rfl (Nat.le_of_ble_eq_true rfl) rfl (fun X hXl C E => ?_)
  subst hXl
  refine J_aload_n C iJ0_length_8abf5_0 rfl rfl ?_
  refine J_getValue C iJ0_length_8abf5_1 hi (tsg_in (i := 1834) (by decide +kernel) rfl) ?_
  refine J_alenS C iJ0_length_8abf5_4 hi ?_
  refine J_aload_n C iJ0_length_8abf5_5 rfl rfl ?_
  refine J_cVS (As := []) (st := [.int (nI (wLen.getD i 0))]) C iJ0_length_8abf5_6 lm_J0_335 yc_J0_coder_7d493 yv_J0_coder_7d493 (c_J0_coder_7d493 hi) hi rfl rfl (rmK_le (by omega) (by decide)) (Nat.le_of_ble_eq_true rfl) ⟨rfl, rfl⟩ ?_
  rintro _ rfl
  refine J_st (.int 0 :: .int (nI (wLen.getD i 0)) :: []) rfl ?_
  refine J_ishr C iJ0_length_8abf5_9 ?_
  rw [wLen_sh i hi]
  exact J_iret C E iJ0_length_8abf5_10 ⟨rfl, rfl⟩
theorem c_J3_checkIndex_n {Z : GZ} {l : Launch} {j n : Nat} (hj : j < n) (hn : n < 1000) : Ct Z l yJ3_checkIndex_8e157 cJ3_checkIndex_8e157 3 (some .int) (rmK 0) [.int (nI j), .int (nI n), .null] [] (fun v w => v = some (.int (nI j)) ∧ w = []) := by
  refine Ct.ofJ (own := RJ3) (nm := "checkIndex") (lv0 := [(0, .int (nI j)), (1, .int (nI n)), (2, .null)]) (by decide) rfl rfl (Nat.le_of_ble_eq_true rfl) rfl (fun X hXl C E => ?_)
  subst hXl
  refine J_iload_n C iJ3_checkIndex_8e157_0 rfl rfl ?_
  refine J_iflt 9 C iJ3_checkIndex_8e157_1 rfl (fun h => absurd h (nI_pos (n := j) (by omega))) (fun _ => ?_)
  refine J_iload_n C iJ3_checkIndex_8e157_4 rfl rfl ?_
  refine J_iload_n C iJ3_checkIndex_8e157_5 rfl rfl ?_
  refine J_icmplt 16 C iJ3_checkIndex_8e157_6 rfl (fun _ => ?_) (fun h => absurd (nI_lt (a := j) (b := n) hj (by omega)) h)
  refine J_iload_n C iJ3_checkIndex_8e157_16 rfl rfl ?_
  exact J_iret C E iJ3_checkIndex_8e157_17 ⟨rfl, rfl⟩
theorem c_J3_checkIndex_r {Z : GZ} {l : Launch} {j n t : Nat} (hj : j < n) (hn : n < 1000) : Ct Z l yJ3_checkIndex_8e157 cJ3_checkIndex_8e157 3 (some .int) (rmK 0) [.int (nI j), .int (nI n), .ref t] [] (fun v w => v = some (.int (nI j)) ∧ w = []) := by
  refine Ct.ofJ (own := RJ3) (nm := "checkIndex") (lv0 := [(0, .int (nI j)), (1, .int (nI n)), (2, .ref t)]) (by decide) rfl rfl (Nat.le_of_ble_eq_true rfl) rfl (fun X hXl C E => ?_)
  subst hXl
  refine J_iload_n C iJ3_checkIndex_8e157_0 rfl rfl ?_
  refine J_iflt 9 C iJ3_checkIndex_8e157_1 rfl (fun h => absurd h (nI_pos (n := j) (by omega))) (fun _ => ?_)
  refine J_iload_n C iJ3_checkIndex_8e157_4 rfl rfl ?_
  refine J_iload_n C iJ3_checkIndex_8e157_5 rfl rfl ?_
  refine J_icmplt 16 C iJ3_checkIndex_8e157_6 rfl (fun _ => ?_) (fun h => absurd (nI_lt (a := j) (b := n) hj (by omega)) h)
  refine J_iload_n C iJ3_checkIndex_8e157_16 rfl rfl ?_
  exact J_iret C E iJ3_checkIndex_8e157_17 ⟨rfl, rfl⟩
theorem c_J0_checkIndex_df160 {Z : GZ} {l : Launch} {j n : Nat} (hj : j < n) (hn : n < 1000) : Ct Z l yJ0_checkIndex_df160 cJ0_checkIndex_df160 2 none (rmK 1) [.int (nI j), .int (nI n)] [] (fun v w => v = none ∧ w = []) := by
  refine Ct.ofJ (own := RJ0) (nm := "checkIndex") (lv0 := [(0, .int (nI j)), (1, .int (nI n))]) (by decide) rfl rfl (Nat.le_of_ble_eq_true rfl) rfl (fun X hXl C E => ?_)
  subst hXl
  refine J_iload_n C iJ0_checkIndex_df160_0 rfl rfl ?_
  refine J_iload_n C iJ0_checkIndex_df160_1 rfl rfl ?_
  refine J_getsFm C iJ0_checkIndex_df160_2 (tsg_in (i := 1416) (by decide +kernel) rfl) ?_ (fun t => ?_)
  · refine J_cSp (As := [.int (nI j), .int (nI n), .null]) (st := []) C iJ0_checkIndex_df160_5 lm_J0_1059 yc_J3_checkIndex_8e157 ys_J3_checkIndex_8e157 (c_J3_checkIndex_n hj hn) rfl (rmK_le (by omega) (by decide)) (Nat.le_of_ble_eq_true rfl) ⟨rfl, rfl⟩ ?_
    rintro _ rfl
    refine J_st (.int (nI j) :: []) rfl ?_
    refine J_pop C iJ0_checkIndex_df160_8 rfl ?_
    exact J_vret C E iJ0_checkIndex_df160_9 ⟨rfl, rfl⟩
  · refine J_cSp (As := [.int (nI j), .int (nI n), .ref t]) (st := []) C iJ0_checkIndex_df160_5 lm_J0_1059 yc_J3_checkIndex_8e157 ys_J3_checkIndex_8e157 (c_J3_checkIndex_r hj hn) rfl (rmK_le (by omega) (by decide)) (Nat.le_of_ble_eq_true rfl) ⟨rfl, rfl⟩ ?_
    rintro _ rfl
    refine J_st (.int (nI j) :: []) rfl ?_
    refine J_pop C iJ0_checkIndex_df160_8 rfl ?_
    exact J_vret C E iJ0_checkIndex_df160_9 ⟨rfl, rfl⟩
theorem c_J1_charAt_3b067 {Z : GZ} {l : Launch} {i j : Nat} (hi : i < 24) (hj : j < wLen.getD i 0) : Ct Z l yJ1_charAt_3b067 cJ1_charAt_3b067 2 (some .char) (rmK 2) [.ref (zsv Z i), .int (nI j)] [] (fun v w => v = some (.int (chW i j)) ∧ w = []) := by
  have h6 := wLen_le i hi
  refine Ct.ofJ (own := RJ1) (nm := "charAt") (lv0 := [(0, .ref (zsv Z i)), (1, .int (nI j))]) (by decide) rfl rfl (Nat.le_of_ble_eq_true rfl) rfl (fun X hXl C E => ?_)
  subst hXl
  refine J_iload_n C iJ1_charAt_3b067_0 rfl rfl ?_
  refine J_aload_n C iJ1_charAt_3b067_1 rfl rfl ?_
  refine J_alenS C iJ1_charAt_3b067_2 hi ?_
  refine J_cSp (As := [.int (nI j), .int (nI (wLen.getD i 0))]) (st := []) C iJ1_charAt_3b067_3 lm_J1_9 yc_J0_checkIndex_df160 ys_J0_checkIndex_df160 (c_J0_checkIndex_df160 hj (by omega)) rfl (rmK_le (by omega) (by decide)) (Nat.le_of_ble_eq_true rfl) ⟨rfl, rfl⟩ ?_
  rintro _ rfl
  refine J_st [] rfl ?_
  refine J_aload_n C iJ1_charAt_3b067_6 rfl rfl ?_
  refine J_iload_n C iJ1_charAt_3b067_7 rfl rfl ?_
  refine J_baldS C iJ1_charAt_3b067_8 hi hj (by omega) ?_
  refine J_sipush 255 C iJ1_charAt_3b067_9 rfl ?_
  refine J_iand C iJ1_charAt_3b067_12 ?_
  refine J_i2c C iJ1_charAt_3b067_13 ?_
  rw [show ((((wByt.getD i []).getD j 0) &&& 255).toUInt32 % 65536).toInt32 = chW i j from chW_c i hi j (by omega)]
  exact J_nret C E iJ1_charAt_3b067_14 (chW_n i j hi (by omega)) ⟨rfl, rfl⟩
theorem c_J0_charAt_5068e {Z : GZ} {l : Launch} {i j : Nat} (hi : i < 24) (hj : j < wLen.getD i 0) : Ct Z l yJ0_charAt_5068e cJ0_charAt_5068e 2 (some .char) (rmK 3) [.ref (zsk Z i), .int (nI j)] [] (fun v w => v = some (.int (chW i j)) ∧ w = []) := by
  have h6 := wLen_le i hi
  refine Ct.ofJ (own := RJ0) (nm := "charAt") (lv0 := [(0, .ref (zsk Z i)), (1, .int (nI j))]) (by decide) rfl rfl (Nat.le_of_ble_eq_true rfl) rfl (fun X hXl C E => ?_)
  subst hXl
  refine J_aload_n C iJ0_charAt_5068e_0 rfl rfl ?_
  refine J_cVS (As := []) (st := []) C iJ0_charAt_5068e_1 lm_J0_492 yc_J0_isLatin1_aae02 yv_J0_isLatin1_aae02 (c_J0_isLatin1_aae02 hi) hi rfl rfl (rmK_le (by omega) (by decide)) (Nat.le_of_ble_eq_true rfl) ⟨rfl, rfl⟩ ?_
  rintro _ rfl
  refine J_st (.int 1 :: []) rfl ?_
  refine J_ifeq 16 C iJ0_charAt_5068e_4 rfl (fun h => absurd h (by decide)) (fun _ => ?_)
  refine J_aload_n C iJ0_charAt_5068e_7 rfl rfl ?_
  refine J_getValue C iJ0_charAt_5068e_8 hi (tsg_in (i := 1834) (by decide +kernel) rfl) ?_
  refine J_iload_n C iJ0_charAt_5068e_11 rfl rfl ?_
  refine J_cSp (As := [.ref (zsv Z i), .int (nI j)]) (st := []) C iJ0_charAt_5068e_12 lm_J0_495 yc_J1_charAt_3b067 ys_J1_charAt_3b067 (c_J1_charAt_3b067 hi hj) rfl (rmK_le (by omega) (by decide)) (Nat.le_of_ble_eq_true rfl) ⟨rfl, rfl⟩ ?_
  rintro _ rfl
  refine J_st (.int (chW i j) :: []) rfl ?_
  exact J_nret C E iJ0_charAt_5068e_15 (chW_n i j hi (by omega)) ⟨rfl, rfl⟩

def ltM (b : Int32) : Int32 := if isLet b = true then b - 97 + 1 else b - 48 + 27
def nmW (i : Nat) : Nat → Int64
  | 0 => 0
  | k + 1 => 37 * nmW i k + (ltM (chW i k)).toInt64
theorem nmW_ok : ∀ i, i < 24 → nmW i (wLen.getD i 0) = kWd.getD i 0 := by decide +kernel
theorem sg_out {m p : Nat} {tb : Nat → Int32} (h : m ≤ p) (hp : p < 2147483648) : sgN m tb p = -1 := by
  unfold sgN sgF
  rw [if_pos (Or.inr (Or.inl (nI_le (a := m) (b := p) h (by omega))))]
theorem let_dig {b : Int32} (h : isLet b = true) : isDig b = false := by
  simp only [isLet, isDig, Bool.and_eq_true, Bool.not_eq_true', decide_eq_false_iff_not, Bool.and_eq_false_iff, Bool.not_eq_false', decide_eq_true_eq] at h ⊢
  right
  have h1 := Int32.le_iff_toInt_le.mp (Int32.not_lt.mp h.1)
  exact Int32.lt_iff_toInt_lt.mpr (by have e1 : (97 : Int32).toInt = 97 := rfl; have e2 : (57 : Int32).toInt = 57 := rfl; omega)
theorem wd_in {m : Nat} {tb : Nat → Int32} {s k : Nat} (h : k < wdL m tb s) : (isLet (sgN m tb (s + k)) || isDig (sgN m tb (s + k))) = true := runL_in (q := fun p => isLet (sgN m tb p) || isDig (sgN m tb p)) h
theorem nm_in {m : Nat} {tb : Nat → Int32} {s k : Nat} (h : k < nmL m tb s) : isDig (sgN m tb (s + k)) = true := runL_in (q := fun p => isDig (sgN m tb p)) h
theorem bl_in {m : Nat} {tb : Nat → Int32} {s k : Nat} (h : k < blL m tb s) : isBl (sgN m tb (s + k)) = true := runL_in (q := fun p => isBl (sgN m tb p)) h
theorem run_out {m : Nat} {tb : Nat → Int32} {s : Nat} {q : Int32 → Bool} (hm : m ≤ 2000) (hs : s ≤ 2000) (hq : q (-1) = false) : q (sgN m tb (s + runL (fun p => q (sgN m tb p)) s (2000 - s))) = false := by
  by_cases h : runL (fun p => q (sgN m tb p)) s (2000 - s) = 2000 - s
  · rw [h, sg_out (by omega) (by omega), hq]
  · exact runL_end (q := fun p => q (sgN m tb p)) h
theorem wd_out {m : Nat} {tb : Nat → Int32} {s : Nat} (hm : m ≤ 2000) (hs : s ≤ 2000) : (isLet (sgN m tb (s + wdL m tb s)) || isDig (sgN m tb (s + wdL m tb s))) = false := run_out (q := fun b => isLet b || isDig b) hm hs (by decide)
theorem nm_out {m : Nat} {tb : Nat → Int32} {s : Nat} (hm : m ≤ 2000) (hs : s ≤ 2000) : isDig (sgN m tb (s + nmL m tb s)) = false := run_out (q := isDig) hm hs (by decide)
theorem bl_out {m : Nat} {tb : Nat → Int32} {s : Nat} (hm : m ≤ 2000) (hs : s ≤ 2000) : isBl (sgN m tb (s + blL m tb s)) = false := run_out (q := isBl) hm hs (by decide)
theorem run_pos {m : Nat} {tb : Nat → Int32} {s : Nat} {q : Int32 → Bool} (hs : s ≤ 2000) (hq : q (-1) = false) (h : q (sgN m tb s) = true) : 1 ≤ runL (fun p => q (sgN m tb p)) s (2000 - s) := by
  have h1 : s < 2000 := sg_lt (m := m) (tb := tb) hs (fun e => by rw [e, hq] at h; exact Bool.false_ne_true h)
  obtain ⟨n, hn⟩ : ∃ n, 2000 - s = n + 1 := ⟨2000 - s - 1, by omega⟩
  rw [hn, runL, if_pos h]
  omega
theorem wd_pos {m : Nat} {tb : Nat → Int32} {s : Nat} (hs : s ≤ 2000) (h : isLet (sgN m tb s) = true) : 1 ≤ wdL m tb s := run_pos (q := fun b => isLet b || isDig b) hs (by decide) (by simp [h])
theorem nm_pos {m : Nat} {tb : Nat → Int32} {s : Nat} (hs : s ≤ 2000) (h : isDig (sgN m tb s) = true) : 1 ≤ nmL m tb s := run_pos (q := isDig) hs (by decide) h
theorem wd_le {m : Nat} {tb : Nat → Int32} {s : Nat} : wdL m tb s ≤ 2000 - s := runL_le
theorem nm_le {m : Nat} {tb : Nat → Int32} {s : Nat} : nmL m tb s ≤ 2000 - s := runL_le
theorem bl_le2 {m : Nat} {tb : Nat → Int32} {s : Nat} : blL m tb s ≤ 2000 - s := runL_le
/-- behind the token at s -/
def endP (m : Nat) (tb : Nat → Int32) (s : Nat) : Nat := if isLet (sgN m tb s) = true then s + wdL m tb s else if isDig (sgN m tb s) = true then s + nmL m tb s else if (sgN m tb s = 60 ∨ sgN m tb s = 62) ∧ sgN m tb (s + 1) = 61 then s + 2 else s + 1
def tkM (m : Nat) (tb : Nat → Int32) (s : Nat) : Nat := if sgN m tb s = -1 then 41 else if isLet (sgN m tb s) = true then wdK m tb s else if isDig (sgN m tb s) = true then nmK m tb s else syK (sgN m tb s) (sgN m tb (s + 1))
theorem endP_l {m : Nat} {tb : Nat → Int32} {s : Nat} (h : isLet (sgN m tb s) = true) : endP m tb s = s + wdL m tb s := by rw [endP, if_pos h]
theorem endP_d {m : Nat} {tb : Nat → Int32} {s : Nat} (h : isDig (sgN m tb s) = true) : endP m tb s = s + nmL m tb s := by
  have h1 : ¬ isLet (sgN m tb s) = true := fun e => by rw [let_dig e] at h; exact Bool.false_ne_true h
  rw [endP, if_neg h1, if_pos h]
theorem endP_2 {m : Nat} {tb : Nat → Int32} {s : Nat} (h1 : isLet (sgN m tb s) = false) (h2 : isDig (sgN m tb s) = false) (h : (sgN m tb s = 60 ∨ sgN m tb s = 62) ∧ sgN m tb (s + 1) = 61) : endP m tb s = s + 2 := by rw [endP, if_neg (by rw [h1]; decide), if_neg (by rw [h2]; decide), if_pos h]
theorem endP_1 {m : Nat} {tb : Nat → Int32} {s : Nat} (h1 : isLet (sgN m tb s) = false) (h2 : isDig (sgN m tb s) = false) (h : ¬ ((sgN m tb s = 60 ∨ sgN m tb s = 62) ∧ sgN m tb (s + 1) = 61)) : endP m tb s = s + 1 := by rw [endP, if_neg (by rw [h1]; decide), if_neg (by rw [h2]; decide), if_neg h]
theorem or_ff {a b : Bool} (h : (a || b) = false) : a = false ∧ b = false := by simpa using h
theorem or_t2 {a b : Bool} (h : (a || b) = true) (h1 : a = false) : b = true := by simpa [h1] using h
theorem endP_le {m : Nat} {tb : Nat → Int32} {s : Nat} (hs : s ≤ 2000) (h : sgN m tb s ≠ -1) : endP m tb s ≤ 2002 := by
  have h1 : s < 2000 := sg_lt (m := m) (tb := tb) hs h
  have := wd_le (m := m) (tb := tb) (s := s)
  have := nm_le (m := m) (tb := tb) (s := s)
  unfold endP
  split
  · omega
  · split
    · omega
    · split <;> omega
theorem endP_le' {m : Nat} {tb : Nat → Int32} {s : Nat} (hs : s ≤ 2000) : endP m tb s ≤ 2002 := by
  have := wd_le (m := m) (tb := tb) (s := s)
  have := nm_le (m := m) (tb := tb) (s := s)
  unfold endP
  split
  · omega
  · split
    · omega
    · split <;> omega

