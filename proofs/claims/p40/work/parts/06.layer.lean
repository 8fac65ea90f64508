/-! The layer: one judgement Jd over the kit's W, with the locals, the stack and the cells as lists; a row an instruction. -/
def nwOk : Cond → Bool
  | .fieldLinkNest .. => true
  | .methodLinkNest .. => true
  | .castable .. => true
  | .declares _ => true
  | .arrayOver (.object _) => true
  | _ => false
/-- private members of a builder, called on a builder -/
def xSel : List Cond := [Cond.selects RJ4 yJ5_ensureCapacityInternal_d00df yJ5_ensureCapacityInternal_d00df, Cond.selects RJ4 yJ5_newCapacity_0f7a4 yJ5_newCapacity_0f7a4, Cond.selects RJ4 yJ5_putStringAt_47b60 yJ5_putStringAt_47b60, Cond.selects RJ4 yJ5_inflateIfNeededFor_a7421 yJ5_inflateIfNeededFor_a7421]
def TSg : List Cond := (lw_tbl ++ xSel).filter goodWord
def NWs : List Cond := lw_tbl.filter nwOk
theorem tsg_in {i : Nat} {w : Cond} (h : lw_tbl[i]? = some w) (hg : goodWord w = true) : w ∈ TSg := List.mem_filter.mpr ⟨List.mem_append_left _ (List.mem_of_getElem? h), hg⟩
theorem tsx_in {i : Nat} {w : Cond} (h : xSel[i]? = some w) (hg : goodWord w = true) : w ∈ TSg := List.mem_filter.mpr ⟨List.mem_append_right _ (List.mem_of_getElem? h), hg⟩
theorem nws_in {i : Nat} {w : Cond} (h : lw_tbl[i]? = some w) (hg : nwOk w = true) : w ∈ NWs := List.mem_filter.mpr ⟨List.mem_of_getElem? h, hg⟩
theorem tsg_good : ∀ w ∈ TSg, goodWord w = true := fun _ h => (List.mem_filter.mp h).2
theorem good_ts {y : MethodName} {cc : ByteArray} {n : Nat} {ret : Option FieldType} (h : Cond.code y cc n ret ∈ TSg) : GoodIn TSg (Cond.code y cc n ret :: TSg) := by
  intro w hw
  rcases List.mem_cons.mp hw with rfl | hw
  · exact ⟨h, good_of_word (tsg_good _ h)⟩
  · exact ⟨hw, good_of_word (tsg_good _ hw)⟩
theorem nw_warm {s U : State} {w : Cond} (h : nwOk w = true) (hW : s.WarmedH U.vm) (hZ : va_Nw w s) : va_Nw w U := by
  cases w with
  | fieldLinkNest a i b n d h => exact va_Nw.warmF hW hZ
  | methodLinkNest a i x h => exact va_Nw.warmM hW hZ
  | castable C T => exact va_Nw.warmC hW hZ
  | declares x => exact va_Nw.warmD hW hZ
  | arrayOver t =>
    cases t with
    | object C => exact va_AO.moved hW.alike hZ
    | _ => exact absurd h (by simp [nwOk])
  | _ => exact absurd h (by simp [nwOk])
theorem nw_same {u U : State} {w : Cond} (h : nwOk w = true) (hv : u.vm = U.vm) (hZ : va_Nw w u) : va_Nw w U := by
  cases w with
  | fieldLinkNest a i b n d h => exact va_Nw.same rfl hv hZ
  | methodLinkNest a i x h => exact va_Nw.same rfl hv hZ
  | castable C T => exact va_Nw.same rfl hv hZ
  | declares x => exact va_Nw.same rfl hv hZ
  | arrayOver t =>
    cases t with
    | object C => exact va_AO.moved (by rw [hv]; exact Vm.Alike.refl _) hZ
    | _ => exact absurd h (by simp [nwOk])
  | _ => exact absurd h (by simp [nwOk])
def NW (U : State) : Prop := ∀ w ∈ NWs, va_Nw w U
theorem NW.warm {s U : State} (hW : s.WarmedH U.vm) (h : NW s) : NW U := fun w hw => nw_warm (List.mem_filter.mp hw).2 hW (h w hw)
theorem NW.same {u U : State} (hv : u.vm = U.vm) (h : NW u) : NW U := fun w hw => nw_same (List.mem_filter.mp hw).2 hv (h w hw)
/-- the texts of throws -/
def strTab : List (String × Nat × String) := [("ShadowRegistry", 68, "the tape is full"), ("ShadowRegistry", 79, "the tape has not so many bytes"), ("ShadowRegistry", 114, "there are no houses"), ("ShadowRegistry", 231, "there is no such house"), ("ShadowRegistry", 234, "its wall has no curfew"), ("ShadowRegistry", 236, "there is no such hour"), ("ShadowRegistry", 162, "it is not in the dark then"), ("ShadowRegistry", 172, "these are no hours of a curfew"), ("ShadowRegistry", 178, "no wall has this height"), ("ShadowRegistry", 183, "the street has no such place"), ("ShadowRegistry", 185, "another house stands there"), ("ShadowRegistry", 238, "days are 1 to 30"), ("ShadowRegistry", 240, "hours are 1 to 13")]
def SR (U : State) : Prop := ∀ r ∈ strTab, ∃ a, vk_R r.1 r.2.1 r.2.2 a U
theorem SR.warm {s U : State} (hW : s.WarmedH U.vm) (h : SR s) : SR U := fun r hr => (h r hr).elim fun a ha => ⟨a, ha.warm hW⟩
theorem SR.same {u U : State} (hv : u.vm = U.vm) (h : SR u) : SR U := fun r hr => (h r hr).elim fun a ha => ⟨a, vk_R.same hv.symm ha⟩
/-- the launch's layout: slots, array kinds, the constants' addresses, the two constant rows', the texts', their bytes' -/
abbrev GZ : Type := va_G × (Nat → ClassId) × (Nat → Nat) × (Nat → Nat) × (Nat → Nat) × (Nat → Nat) × (Nat → Int32)
abbrev zA (Z : GZ) : Nat → ClassId := Z.2.1
abbrev zad (Z : GZ) : Nat → Nat := Z.2.2.1
abbrev zms (Z : GZ) : Nat → Nat := Z.2.2.2.1
abbrev zsk (Z : GZ) : Nat → Nat := Z.2.2.2.2.1
abbrev zsv (Z : GZ) : Nat → Nat := Z.2.2.2.2.2.1
/-- the script -/
abbrev zxs (Z : GZ) : Nat → Int32 := Z.2.2.2.2.2.2
def tysZ (Z : GZ) : List (ClassId × FieldType) := [(zA Z 0, .int), (zA Z 1, .long), (zA Z 2, .byte), (zA Z 3, .object RX2), (zA Z 4, .object RX1), (zA Z 5, .object RX10), (zA Z 6, .array .int), (zA Z 7, .object "java/lang/String"), (zA Z 8, .boolean)]
def KC (U : State) : Prop := ∃ (c : ClassId) (k : Class), U.vm.findClass RX1 = some c ∧ U.vm.classes[c]? = some k
theorem KC.moved {u U : State} (hvm : u.vm.Alike U.vm) (h : KC u) : KC U := by
  obtain ⟨c, k, h1, h2⟩ := h
  obtain ⟨k', hk', -⟩ := hvm.2.2 _ _ h2
  exact ⟨c, k', by rw [hvm.findClass]; exact h1, hk'⟩
/-- the law's texts: whose, at which place of the pool -/
def txTab : List (String × Nat × String) := [(RL, 81, "house h"), (RL, 92, " at "), (RL, 94, " high "), (RL, 96, ";\n"), (RL, 111, "law curfew h"), (RL, 113, "law open h"), (RL, 115, "law raise h"), (RL, 117, " from "), (RL, 119, " by "), (RL, 125, " to "), (RL, 127, ""), (RL, 130, " when "), (RL, 135, ";"), (RX10, 59, ""), (RX10, 61, "day "), (RX10, 63, "worst "), (RX10, 65, "lost of h"), (RX10, 67, "cast of h"), (RX10, 69, "height of h"), (RX10, 71, "+"), (RX10, 73, "-"), (RX10, 75, "*"), (RX10, 77, "/"), (RX10, 79, "min("), (RX10, 81, "max("), (RX10, 83, "<"), (RX10, 85, ">"), (RX10, 87, "="), (RX10, 89, "<="), (RX10, 91, ">="), (RX10, 107, " "), (RX10, 109, "- ("), (RX10, 114, ")"), (RX10, 116, "("), (RX10, 118, ","), (RX10, 120, "shades h"), (RX10, 122, " h"), (RX10, 124, "dark h"), (RX10, 126, "not["), (RX10, 128, "]"), (RX10, 130, "["), (RX10, 132, "and"), (RX10, 134, "or")]
def TR (Z : GZ) (U : State) : Prop := ∀ j r, txTab[j]? = some r → vk_R r.1 r.2.1 r.2.2 (zsk Z j) U
theorem TR.warm {Z : GZ} {s U : State} (hW : s.WarmedH U.vm) (h : TR Z s) : TR Z U := fun j r hr => (h j r hr).warm hW
/-- the class of rows of rows of ints -/
def AA (Z : GZ) (U : State) : Prop := ∃ k : Class, (U.vm.classes.findIdx? fun x => match x.kind with | .array component _ => component == zA Z 0 | _ => false) = some (zA Z 6) ∧ U.vm.classes[zA Z 6]? = some k ∧ k.kind = .array (zA Z 0) (.array .int)
theorem AA.moved {Z : GZ} {u U : State} (hvm : u.vm.Alike U.vm) (h : AA Z u) : AA Z U := by
  obtain ⟨k, h1, h2, h3⟩ := h
  obtain ⟨k', hk', he⟩ := hvm.2.2 _ _ h2
  exact ⟨k', by rw [hvm.findIdx?_eq _ (fun _ => rfl)]; exact h1, hk', by rw [he]; exact h3⟩
theorem TR.same {Z : GZ} {u U : State} (hv : u.vm = U.vm) (h : TR Z u) : TR Z U := fun j r hr => vk_R.same hv.symm (h j r hr)
def KW (Z : GZ) (U : State) : Prop := va_K Z.1 vwCl (tysZ Z) U ∧ NW U ∧ SR U ∧ KC U ∧ TR Z U ∧ AA Z U
theorem KW.warm {Z : GZ} {s U : State} (hW : s.WarmedH U.vm) (h : KW Z s) : KW Z U := ⟨va_K.moved hW.alike h.1, h.2.1.warm hW, h.2.2.1.warm hW, h.2.2.2.1.moved hW.alike, h.2.2.2.2.1.warm hW, h.2.2.2.2.2.moved hW.alike⟩
theorem KW.same {Z : GZ} {u U : State} (hv : u.vm = U.vm) (h : KW Z u) : KW Z U := ⟨va_K.moved (by rw [hv]; exact Vm.Alike.refl _) h.1, h.2.1.same hv, h.2.2.1.same hv, h.2.2.2.1.moved (by rw [hv]; exact Vm.Alike.refl _), h.2.2.2.2.1.same hv, h.2.2.2.2.2.moved (by rw [hv]; exact Vm.Alike.refl _)⟩
/-- the enum's constants, by their places -/
def kNm : List String := ["HOUSE", "AT", "HIGH", "LAW", "CURFEW", "FROM", "TO", "OPEN", "RAISE", "BY", "WHEN", "DAY", "LOST", "CAST", "HEIGHT", "WORST", "OF", "SHADES", "DARK", "NOT", "AND", "OR", "MIN", "MAX", "LEFT_ROUND", "RIGHT_ROUND", "LEFT_SQUARE", "RIGHT_SQUARE", "SEMICOLON", "COMMA", "PLUS", "MINUS", "TIMES", "SLASH", "LESS", "GREATER", "EQUAL", "LESS_EQUAL", "GREATER_EQUAL", "NAME", "NUMBER", "END", "BAD"]
def kWd : List Int64 := [15782540, 57, 417812, 16488, 248309428, 329128, 755, 781898, 33798580, 99, 1176170, 5538, 629094, 154051, 564588237, 43890863, 561, 1332584804, 204658, 19741, 1891, 573, 18144, 17858]
def kD : String := "LShadowRegistry$Kind;"
/-- the texts' lengths and bytes -/
def wLen : List Nat := [7, 4, 6, 2, 12, 10, 11, 6, 4, 4, 0, 6, 1, 0, 4, 6, 9, 9, 11, 1, 1, 1, 1, 4, 4, 1, 1, 1, 2, 2, 1, 3, 1, 1, 1, 8, 2, 6, 4, 1, 1, 3, 2]
def wByt : List (List Int32) := [[104, 111, 117, 115, 101, 32, 104], [32, 97, 116, 32], [32, 104, 105, 103, 104, 32], [59, 10], [108, 97, 119, 32, 99, 117, 114, 102, 101, 119, 32, 104], [108, 97, 119, 32, 111, 112, 101, 110, 32, 104], [108, 97, 119, 32, 114, 97, 105, 115, 101, 32, 104], [32, 102, 114, 111, 109, 32], [32, 98, 121, 32], [32, 116, 111, 32], [], [32, 119, 104, 101, 110, 32], [59], [], [100, 97, 121, 32], [119, 111, 114, 115, 116, 32], [108, 111, 115, 116, 32, 111, 102, 32, 104], [99, 97, 115, 116, 32, 111, 102, 32, 104], [104, 101, 105, 103, 104, 116, 32, 111, 102, 32, 104], [43], [45], [42], [47], [109, 105, 110, 40], [109, 97, 120, 40], [60], [62], [61], [60, 61], [62, 61], [32], [45, 32, 40], [41], [40], [44], [115, 104, 97, 100, 101, 115, 32, 104], [32, 104], [100, 97, 114, 107, 32, 104], [110, 111, 116, 91], [93], [91], [97, 110, 100], [111, 114]]
/-- the law's texts as they lie -/
def tk_S (len : List Nat) (byt : List (List Int32)) (adK adV : Nat → Nat) (A : Nat → Prop) (U : State) (H : Heap) : Prop :=
  ∀ i : Nat, i < 43 → va_O "java/lang/String" (adK i) A U H ∧ va_OF "java/lang/String" "coder" "B" (.int 0) (adK i) A U H ∧ va_OF "java/lang/String" "value" "[B" (.ref (adV i)) (adK i) A U H ∧ va_T .byte (adV i) (len.getD i 0) (fun j => .int ((byt.getD i []).getD j 0)) A U H
theorem tk_S.moved {len : List Nat} {byt : List (List Int32)} {adK adV : Nat → Nat} {A : Nat → Prop} {u U : State} {H : Heap} (hvm : u.vm.Alike U.vm) (h : tk_S len byt adK adV A u H) : tk_S len byt adK adV A U H := fun i hi => ⟨va_O.moved hvm (h i hi).1, va_OF.moved hvm (h i hi).2.1, va_OF.moved hvm (h i hi).2.2.1, va_T.moved hvm (h i hi).2.2.2⟩
theorem tk_S.kept {len : List Nat} {byt : List (List Int32)} {adK adV : Nat → Nat} {A : Nat → Prop} {U : State} {H H1 : Heap} (h : tk_S len byt adK adV A U H) (hq : ∀ a : Nat, a < H.size → ¬ A a → H1[a]? = H[a]?) : tk_S len byt adK adV A U H1 := fun i hi => ⟨va_O.kept (h i hi).1 hq, va_OF.kept (h i hi).2.1 hq, va_OF.kept (h i hi).2.2.1 hq, va_T.kept (h i hi).2.2.2 hq⟩
theorem tk_S.narrow {len : List Nat} {byt : List (List Int32)} {adK adV : Nat → Nat} {A B : Nat → Prop} {U : State} {H : Heap} (h : tk_S len byt adK adV A U H) (hAB : ∀ q, B q → A q) : tk_S len byt adK adV B U H := fun i hi => ⟨va_O.narrow (h i hi).1 hAB, va_OF.narrow (h i hi).2.1 hAB, va_OF.narrow (h i hi).2.2.1 hAB, va_T.narrow (h i hi).2.2.2 hAB⟩
/-- what nobody writes: constants, constant rows, texts -/
def SF (Z : GZ) (A : Nat → Prop) (U : State) (H : Heap) : Prop :=
  (∀ i, i < 43 → va_Z RX1 (kNm.getD i "") kD (.ref (zad Z i)) A U H ∧ va_O RX1 (zad Z i) A U H ∧ va_OF RX1 "word" "J" (.long (kWd.getD i 0)) (zad Z i) A U H)
  ∧ (∀ i j, i < 43 → j < 43 → zad Z i = zad Z j → i = j)
  ∧ va_Z RX8 "KINDS" "[LShadowRegistry$Kind;" (.ref (zms Z 0)) A U H
  ∧ va_T (.object RX1) (zms Z 0) 43 (fun j => .ref (zad Z j)) A U H
  ∧ (va_Z "java/lang/Integer" "DigitTens" "[B" (.ref (zms Z 1)) A U H ∧ va_T .byte (zms Z 1) 100 (fun j => .int (Int32.ofNat (48 + j / 10))) A U H)
  ∧ (va_Z "java/lang/Integer" "DigitOnes" "[B" (.ref (zms Z 2)) A U H ∧ va_T .byte (zms Z 2) 100 (fun j => .int (Int32.ofNat (48 + j % 10))) A U H ∧ va_T .int (zms Z 3) (zms Z 4) (fun j => .int (zxs Z j)) A U H)
  ∧ tk_S wLen wByt (zsk Z) (zsv Z) A U H
  ∧ va_Z "java/lang/String" "COMPACT_STRINGS" "Z" (.int 1) A U H
  ∧ va_Zq "jdk/internal/util/Preconditions" "SIOOBE_FORMATTER" "Ljava/util/function/BiFunction;" A U H
  ∧ vx_Zq Bundle.tN "UNASSIGNED_STACK" Bundle.steD A U H ∧ vx_Zq Bundle.tN "SUPPRESSED_SENTINEL" Bundle.listD A U H
theorem SF.moved {Z : GZ} {A : Nat → Prop} {u U : State} {H : Heap} (hvm : u.vm.Alike U.vm) (h : SF Z A u H) : SF Z A U H := by
  obtain ⟨h1, h2, h3, h4, h5, h6, h7, h8, h9, h10, h11⟩ := h
  exact ⟨fun i hi => ⟨va_Z.moved hvm (h1 i hi).1, va_O.moved hvm (h1 i hi).2.1, va_OF.moved hvm (h1 i hi).2.2⟩, h2, va_Z.moved hvm h3, va_T.moved hvm h4, ⟨va_Z.moved hvm h5.1, va_T.moved hvm h5.2⟩, ⟨va_Z.moved hvm h6.1, va_T.moved hvm h6.2.1, va_T.moved hvm h6.2.2⟩, tk_S.moved hvm h7, va_Z.moved hvm h8, va_Zq.moved hvm h9, vx_Zq.moved hvm h10, vx_Zq.moved hvm h11⟩
theorem SF.kept {Z : GZ} {A : Nat → Prop} {U : State} {H H1 : Heap} (h : SF Z A U H) (hq : ∀ a : Nat, a < H.size → ¬ A a → H1[a]? = H[a]?) : SF Z A U H1 := by
  obtain ⟨h1, h2, h3, h4, h5, h6, h7, h8, h9, h10, h11⟩ := h
  exact ⟨fun i hi => ⟨va_Z.kept (h1 i hi).1 hq, va_O.kept (h1 i hi).2.1 hq, va_OF.kept (h1 i hi).2.2 hq⟩, h2, va_Z.kept h3 hq, va_T.kept h4 hq, ⟨va_Z.kept h5.1 hq, va_T.kept h5.2 hq⟩, ⟨va_Z.kept h6.1 hq, va_T.kept h6.2.1 hq, va_T.kept h6.2.2 hq⟩, tk_S.kept h7 hq, va_Z.kept h8 hq, va_Zq.kept h9 hq, vx_Zq.kept h10 hq, vx_Zq.kept h11 hq⟩
theorem SF.narrow {Z : GZ} {A B : Nat → Prop} {U : State} {H : Heap} (h : SF Z A U H) (hAB : ∀ q, B q → A q) : SF Z B U H := by
  obtain ⟨h1, h2, h3, h4, h5, h6, h7, h8, h9, h10, h11⟩ := h
  exact ⟨fun i hi => ⟨va_Z.narrow (h1 i hi).1 hAB, va_O.narrow (h1 i hi).2.1 hAB, va_OF.narrow (h1 i hi).2.2 hAB⟩, h2, va_Z.narrow h3 hAB, va_T.narrow h4 hAB, ⟨va_Z.narrow h5.1 hAB, va_T.narrow h5.2 hAB⟩, ⟨va_Z.narrow h6.1 hAB, va_T.narrow h6.2.1 hAB, va_T.narrow h6.2.2 hAB⟩, tk_S.narrow h7 hAB, va_Z.narrow h8 hAB, va_Zq.narrow h9 hAB, vx_Zq.narrow h10 hAB, vx_Zq.narrow h11 hAB⟩
/-- where a body stands: machine, launch, .., the cells that it may change -/
abbrev CX : Type := Program × Launch × Env × State × MethodId × Array Value × List Frame × Method × Code × (Nat → Prop)
abbrev cP (X : CX) : Program := X.1
abbrev cL (X : CX) : Launch := X.2.1
abbrev cE (X : CX) : Env := X.2.2.1
abbrev cS (X : CX) : State := X.2.2.2.1
abbrev cM (X : CX) : MethodId := X.2.2.2.2.1
abbrev cA (X : CX) : Array Value := X.2.2.2.2.2.1
abbrev cB (X : CX) : List Frame := X.2.2.2.2.2.2.1
abbrev cMe (X : CX) : Method := X.2.2.2.2.2.2.2.1
abbrev cC (X : CX) : Code := X.2.2.2.2.2.2.2.2.1
abbrev cF (X : CX) : Nat → Prop := X.2.2.2.2.2.2.2.2.2
def Cx (Z : GZ) (X : CX) (cc : ByteArray) (nL : Nat) (own : String) : Prop :=
  (cP X).tables.exec = Jvm.exec ∧ (cC X).code = cc ∧ (cC X).maxLocals = nL ∧ (cS X).vm.findClass own = some (cM X).cls ∧ (∀ w ∈ TSg, w.before (cA X) (cS X) = true) ∧ KW Z (cS X) ∧ SF Z (cF X) (cS X) (cS X).heap ∧ (∀ q, (cS X).heap.size ≤ q → cF X q)
/-- what the end of a body asks -/
def Cr (X : CX) (ret : Option FieldType) (nm : String) : Prop := (cMe X).sig.returnType = ret ∧ (cMe X).locks = false ∧ (cMe X).name = nm
def Jd (Z : GZ) (X : CX) (R : Room) (nL : Nat) (Q : State → Prop) (rc rs pc : Nat) (lv : List (Nat × Value)) (st : List Value) (ws : va_W) : Prop :=
  ∀ (ls : Array Slot) (H : Heap) (locs : List Loc) (cells slots : Nat), cells + rc ≤ R.cells → slots + rs ≤ R.slots → lv_has ls nL lv → va_P Z.1 vwCl ws H → va_D (cF X) ws → va_S (cF X) (cS X).heap H locs →
    W (cP X) (cL X) (cE X) R (cS X) (cM X) (cA X) (cB X) (cMe X) (cC X) H locs cells slots Q (F0 (cM X) pc ls st)
def QM (Z : GZ) (X : CX) (R : Room) (K : Option Value → va_W → Prop) : State → Prop :=
  MQ (cB X) (fun _ st o t => (∃ v w1, o = .returned v ∧ K v w1 ∧ va_P Z.1 vwCl w1 t.heap ∧ va_D (cF X) w1) ∧ va_F (cF X) st t) (cA X) (cS X) R.cells R.slots (cF X)
/-- a contract: called with av over the cells w0, y gives v and the cells w1 with K v w1 -/
def Ct (Z : GZ) (l : Launch) (y : MethodName) (cc : ByteArray) (nL : Nat) (ret : Option FieldType) (R : Room) (av : List Value) (w0 : va_W) (K : Option Value → va_W → Prop) : Prop :=
  ∀ sz : Nat, Met l y (Cond.code y cc nL ret :: TSg) R (va_Pc av (fun U => U.heap.size = sz ∧ va_P Z.1 vwCl w0 U.heap ∧ KW Z U ∧ va_D (fun _ => True) w0 ∧ SF Z (va_A w0 sz) U U.heap))
    (fun _ st o t => (∃ v w1, o = .returned v ∧ K v w1 ∧ va_P Z.1 vwCl w1 t.heap ∧ va_D (va_A w0 sz) w1) ∧ va_F (va_A w0 sz) st t) R.cells R.slots (va_A w0 sz)
theorem Ct.weaken {Z : GZ} {l : Launch} {y : MethodName} {cc : ByteArray} {nL : Nat} {ret : Option FieldType} {R : Room} {av : List Value} {w0 : va_W} {K K' : Option Value → va_W → Prop} (h : Ct Z l y cc nL ret R av w0 K) (hK : ∀ v w1, K v w1 → K' v w1) : Ct Z l y cc nL ret R av w0 K' := by
  intro sz p e a b c s m args below h1 h2 h3 h4
  obtain ⟨n, o, g1, g2, g3, ⟨⟨v, w1, k1, k2, k3⟩, k4⟩, k5⟩ := h sz p e a b c s m args below h1 h2 h3 h4
  exact ⟨n, o, g1, g2, g3, ⟨⟨v, w1, k1, hK v w1 k2, k3⟩, k4⟩, k5⟩
theorem Ct.ofJ {Z : GZ} {l : Launch} {y : MethodName} {cc : ByteArray} {nL : Nat} {ret : Option FieldType} {R : Room} {av : List Value} {w0 : va_W} {K : Option Value → va_W → Prop} {own nm : String} {lv0 : List (Nat × Value)} (hy : plainName y.cls = true) (hown : y.cls = own) (hnm : y.name = nm) (hav : (lg_sl av).length ≤ nL) (hlv : lv_args 0 av = lv0)
    (body : ∀ X : CX, cL X = l → Cx Z X cc nL own → Cr X ret nm → Jd Z X R nL (QM Z X R K) R.cells R.slots 0 lv0 [] w0) : Ct Z l y cc nL ret R av w0 K := by
  intro sz
  refine Met.ofW (cc := cc) (maxL := nL) (ret := ret) hy rfl ?_
  intro p e s m args below meth c s₁ B hml hv
  obtain ⟨rfl, hsz, hP, hK, hD0, hSF⟩ := hv
  subst hsz
  have hts := atoms_spec (ws := Cond.code y cc nL ret :: TSg) B.pre
  have hcls : s.vm.findClass own = some m.cls := hown ▸ findClass_of_methodNamed B.named
  have hname : meth.name = nm := hnm ▸ (name_of_methodNamed B.named B.method).1
  have hl := lv_entry av (n := nL) hav
  rw [hlv] at hl
  rw [lg_entry_eq]
  exact body (p, l, e, s, m, av.toArray, below, meth, c, va_A w0 s.heap.size) rfl ⟨B.exec, B.bytes, hml, hcls, fun w hw => hts w (List.mem_cons_of_mem _ hw), hK, hSF, fun q h => Or.inr h⟩ ⟨B.returns, B.notSynchronized, hname⟩ _ _ [] 0 0 (by omega) (by omega) hl hP hD0.self va_S.rf
/-- the field at the own pool's place idx: the k-th of the ci-th kind -/
def GF (own : String) (idx ci k : Nat) : Prop := ∃ (C0 : String) (T : u_T) (N : Nat), vwCl[ci]? = some (C0, T, N) ∧ k < N ∧ (∀ w ∈ u_ws C0 T N, w ∈ TSg) ∧ (Cond.fieldLink own idx (T k).1 (T k).2.1 (T k).2.2.1 ∈ TSg ∨ ∃ host, Cond.fieldLinkNest own idx (T k).1 (T k).2.1 (T k).2.2.1 host ∈ NWs)
/-- .. that is not final, of type ty -/
def PF (own : String) (idx ci k : Nat) (ty : FieldType) : Prop := ∃ (C0 : String) (T : u_T) (N : Nat) (ty0 : Nat → FieldType), vwCl[ci]? = some (C0, T, N) ∧ k < N ∧ (∀ w ∈ u_ws C0 T N, w ∈ TSg) ∧ (Cond.fieldLink own idx (T k).1 (T k).2.1 (T k).2.2.1 ∈ TSg ∨ ∃ host, Cond.fieldLinkNest own idx (T k).1 (T k).2.1 (T k).2.2.1 host ∈ NWs) ∧ (∀ k, k < N → parseFieldDescriptor (T k).2.2.1 = some (ty0 k)) ∧ (∀ a, a < N → ∀ b, b < N → a ≠ b → (T a).2.1 ≠ (T b).2.1) ∧ ty0 k = ty ∧ (T k).2.2.2 = false
/-- .. that is final, of type ty -/
def PFF (own : String) (idx ci k : Nat) (ty : FieldType) : Prop := ∃ (C0 : String) (T : u_T) (N : Nat) (ty0 : Nat → FieldType), vwCl[ci]? = some (C0, T, N) ∧ k < N ∧ (T k).1 = C0 ∧ C0 = own ∧ (∀ w ∈ u_ws C0 T N, w ∈ TSg) ∧ Cond.fieldLink own idx C0 (T k).2.1 (T k).2.2.1 ∈ TSg ∧ (∀ k, k < N → parseFieldDescriptor (T k).2.2.1 = some (ty0 k)) ∧ (∀ a, a < N → ∀ b, b < N → a ≠ b → (T a).2.1 ≠ (T b).2.1) ∧ ty0 k = ty ∧ (T k).2.2.2 = true
/-- the links of a call, by the tables -/
def LkM (own : String) (idx : Nat) (y : MethodName) : Prop := Cond.methodLink own idx y ∈ TSg
def LkN (own : String) (idx : Nat) (y : MethodName) : Prop := ∃ host, Cond.methodLinkNest own idx y host ∈ NWs
/-- the callee, by the tables -/
def YC (y : MethodName) (cb : ByteArray) (nB : Nat) (ret : Option FieldType) (nP : Nat) : Prop := Cond.initialized y.cls ∈ TSg ∧ Cond.code y cb nB ret ∈ TSg ∧ (y.cls ≠ "java/lang/invoke/MethodHandle" ∧ y.cls ≠ "java/lang/invoke/VarHandle" ∧ (parseMethodDescriptor y.desc).map (fun d => d.parameters.length) = some nP)
def YV (y : MethodName) : Prop := Cond.instanceMethod y ∈ TSg ∧ Cond.selects y.cls y y ∈ TSg
def YS (y : MethodName) : Prop := Cond.static y ∈ TSg
def YI (y : MethodName) : Prop := Cond.instanceMethod y ∈ TSg ∧ y.name = "<init>"
/-- the i-th constant is named by the own pool's place idx -/
def KF (own : String) (idx i : Nat) : Prop := i < 43 ∧ Cond.fieldLink own idx RX1 (kNm.getD i "") kD ∈ TSg
