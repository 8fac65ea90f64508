/-! The told text is a row of tokens. -/
/-- a house's name -/
def hV (d : Nat) : Int64 := wV [104, 48 + d] 0
def Sep (B : List Nat) : Prop := (isLet (sB (hdT B)) || isDig (sB (hdT B))) = false
theorem sep_c {c : Nat} {B : List Nat} (h : (isLet (sB c) || isDig (sB c)) = false) : Sep (c :: B) := h
theorem eq_c {c : Nat} {B : List Nat} (h : ¬ sB c = 61) : ¬ sB (hdT (c :: B)) = 61 := h
theorem Fl.bl {c : Nat} {I : List (Nat × Int64)} {B : List Nat} (hc : isBl (nI c) = true) (h : Fl I B) : Fl I (c :: B) := by
  cases I with
  | nil =>
    intro x hx
    rcases List.mem_cons.mp hx with rfl | hx
    · exact hc
    · exact h x hx
  | cons t I =>
    obtain ⟨bl, w, r, e, hb, ok, h2⟩ := h
    refine ⟨c :: bl, w, r, by rw [e]; rfl, fun x hx => ?_, ok, h2⟩
    rcases List.mem_cons.mp hx with rfl | hx
    · exact hc
    · exact hb x hx
theorem Fl.tok {w : List Nat} {k : Nat} {v : Int64} {I : List (Nat × Int64)} {B : List Nat} (ok : TkO w (sB (hdT B)) k v) (h : Fl I B) : Fl ((k, v) :: I) (w ++ B) := ⟨[], w, B, rfl, fun _ q => absurd q List.not_mem_nil, ok, h⟩
def wdX (w : List Nat) (k : Nat) : Bool := decide (0 < w.length) && !isBl (nI (w.getD 0 0)) && isLet (nI (w.getD 0 0)) && w.all (fun c => isLet (nI c) || isDig (nI c)) && decide (w.length ≤ 10) && (kwO (wV w 0) == some k)
theorem Fl.wd {w : List Nat} {k : Nat} {I : List (Nat × Int64)} {B : List Nat} (h : wdX w k = true) (hs : Sep B) (hF : Fl I B) : Fl ((k, 0) :: I) (w ++ B) := by
  unfold wdX at h
  simp only [Bool.and_eq_true, decide_eq_true_eq, Bool.not_eq_true', List.all_eq_true, beq_iff_eq] at h
  obtain ⟨⟨⟨⟨⟨h1, h2⟩, h3⟩, h4⟩, h5⟩, h6⟩ := h
  exact Fl.tok ⟨h1, h2, Or.inl ⟨h3, h4, h5, hs, Or.inl ⟨h6, rfl⟩⟩⟩ hF
def syX (c k : Nat) : Bool := !isBl (nI c) && !isLet (nI c) && !isDig (nI c) && decide (¬ c = 60 ∧ ¬ c = 62) && decide (symK (nI c) = k) && decide (¬ k = 42)
theorem Fl.sy {c k : Nat} {I : List (Nat × Int64)} {B : List Nat} (h : syX c k = true) (hF : Fl I B) : Fl ((k, 0) :: I) (c :: B) := by
  unfold syX at h
  simp only [Bool.and_eq_true, decide_eq_true_eq, Bool.not_eq_true'] at h
  obtain ⟨⟨⟨⟨⟨h1, h2⟩, h3⟩, h4⟩, h5⟩, h6⟩ := h
  exact Fl.tok (w := [c]) ⟨Nat.one_pos, h1, Or.inr (Or.inr ⟨rfl, Or.inl ⟨c, rfl, h2, h3, fun q => by omega, h5, h6⟩⟩)⟩ hF
theorem Fl.lt {I : List (Nat × Int64)} {B : List Nat} (h : ¬ sB (hdT B) = 61) (hF : Fl I B) : Fl ((34, 0) :: I) (60 :: B) :=
  Fl.tok (w := [60]) ⟨Nat.one_pos, by decide, Or.inr (Or.inr ⟨rfl, Or.inl ⟨60, rfl, by decide, by decide, fun q => h q.1, by decide, by decide⟩⟩)⟩ hF
theorem Fl.gt {I : List (Nat × Int64)} {B : List Nat} (h : ¬ sB (hdT B) = 61) (hF : Fl I B) : Fl ((35, 0) :: I) (62 :: B) :=
  Fl.tok (w := [62]) ⟨Nat.one_pos, by decide, Or.inr (Or.inr ⟨rfl, Or.inl ⟨62, rfl, by decide, by decide, fun q => h q.1, by decide, by decide⟩⟩)⟩ hF
theorem Fl.le {I : List (Nat × Int64)} {B : List Nat} (hF : Fl I B) : Fl ((37, 0) :: I) (60 :: 61 :: B) :=
  Fl.tok (w := [60, 61]) ⟨by decide, by decide, Or.inr (Or.inr ⟨rfl, Or.inr (Or.inl ⟨rfl, rfl⟩)⟩)⟩ hF
theorem Fl.ge {I : List (Nat × Int64)} {B : List Nat} (hF : Fl I B) : Fl ((38, 0) :: I) (62 :: 61 :: B) :=
  Fl.tok (w := [62, 61]) ⟨by decide, by decide, Or.inr (Or.inr ⟨rfl, Or.inr (Or.inr ⟨rfl, rfl⟩)⟩)⟩ hF
/-- a number's digits -/
theorem dig_v : ∀ d, d < 10 → (nI (48 + d) - 48).toInt64 = Int64.ofNat d ∧ isDig (nI (48 + d)) = true ∧ isBl (nI (48 + d)) = false ∧ ¬ sB (48 + d) = 61 := by decide +kernel
theorem sb_dg_pow {v : Nat} (hv : v < 1000000) : v / 10 ^ sb_dg v = 0 ∧ 1 ≤ sb_dg v ∧ sb_dg v ≤ 6 := by
  refine ⟨Nat.div_eq_of_lt ?_, ?_⟩
  · unfold sb_dg
    repeat' split
    all_goals (first | omega | skip)
  · unfold sb_dg
    repeat' split
    all_goals omega
theorem nV_dec (v : Nat) (hv : v / 10 ^ sb_dg v = 0) : ∀ m, m ≤ sb_dg v → nV ((List.range m).map (sb_dec v)) 0 = Int64.ofNat (v / 10 ^ (sb_dg v - m))
  | 0, _ => by rw [Nat.sub_zero, hv]; rfl
  | m + 1, hm => by
    rw [List.range_succ, List.map_append, List.map_cons, List.map_nil, nV_snoc, nV_dec v hv m (by omega)]
    have e1 : sb_dec v m = 48 + v / 10 ^ (sb_dg v - 1 - m) % 10 := rfl
    have e2 : sb_dg v - (m + 1) = sb_dg v - 1 - m := by omega
    have e3 : sb_dg v - m = (sb_dg v - 1 - m) + 1 := by omega
    rw [e1, (dig_v _ (Nat.mod_lt _ (by decide))).1, e2, e3, Nat.pow_succ, ← Nat.div_div_eq_div_mul]
    have e4 : (10 : Int64) = Int64.ofNat 10 := rfl
    rw [e4, ← Int64.ofNat_mul, ← Int64.ofNat_add]
    exact congrArg Int64.ofNat (by omega)
theorem nV_num {v : Nat} (hv : v < 1000000) : nV (dTx v) 0 = Int64.ofNat v := by
  obtain ⟨h1, -, -⟩ := sb_dg_pow hv
  rw [dTx, nV_dec v h1 _ (Nat.le_refl _), Nat.sub_self, Nat.pow_zero, Nat.div_one]
theorem dTx_in {v c : Nat} (h : c ∈ dTx v) : ∃ d, d < 10 ∧ c = 48 + d := by
  obtain ⟨i, -, rfl⟩ := List.mem_map.mp h
  exact ⟨_, Nat.mod_lt _ (by decide), rfl⟩
theorem dTx_0 {v : Nat} (hv : v < 1000000) : ∃ d, d < 10 ∧ (dTx v).getD 0 0 = 48 + d ∧ ∀ B, hdT (dTx v ++ B) = 48 + d := by
  obtain ⟨-, h1, -⟩ := sb_dg_pow hv
  have hl : 0 < (dTx v).length := by rw [dTx_len]; exact h1
  obtain ⟨d, hd, e⟩ := dTx_in (gd_mem hl)
  refine ⟨d, hd, e, fun B => ?_⟩
  rw [← e]
  cases h9 : dTx v with
  | nil => rw [h9] at hl; exact absurd hl (Nat.lt_irrefl _)
  | cons x l => rfl
theorem Fl.nm {v : Nat} {I : List (Nat × Int64)} {B : List Nat} (hv : v < 1000000) (hs : Sep B) (hF : Fl I B) : Fl ((40, Int64.ofNat v) :: I) (dTx v ++ B) := by
  obtain ⟨-, h1, h2⟩ := sb_dg_pow hv
  obtain ⟨d, hd, e, -⟩ := dTx_0 hv
  refine Fl.tok ⟨by rw [dTx_len]; exact h1, by rw [e]; exact (dig_v d hd).2.2.1, Or.inr (Or.inl ⟨fun c hc => ?_, by rw [dTx_len]; exact h2, ?_, rfl, (nV_num hv).symm⟩)⟩ hF
  · obtain ⟨d, hd, rfl⟩ := dTx_in hc
    exact (dig_v d hd).2.1
  · unfold Sep at hs
    rw [Bool.or_eq_false_iff] at hs
    exact hs.2
theorem eq_n {v : Nat} {B : List Nat} (hv : v < 1000000) : ¬ sB (hdT (dTx v ++ B)) = 61 := by
  obtain ⟨d, hd, -, e⟩ := dTx_0 hv
  rw [e]
  exact (dig_v d hd).2.2.2
theorem dTx_10 : ∀ d, d < 10 → dTx d = [48 + d] := by decide +kernel
def naX (d : Nat) : Bool := !isBl (nI (104 : Nat)) && isLet (nI (104 : Nat)) && [104, 48 + d].all (fun c => isLet (nI c) || isDig (nI c)) && (kwO (wV [104, 48 + d] 0) == none)
theorem naX_ok : ∀ d, d < 10 → naX d = true := by decide +kernel
theorem Fl.na {d : Nat} {I : List (Nat × Int64)} {B : List Nat} (hd : d < 10) (hs : Sep B) (hF : Fl I B) : Fl ((39, hV d) :: I) (104 :: (dTx d ++ B)) := by
  have h := naX_ok d hd
  unfold naX at h
  simp only [Bool.and_eq_true, Bool.not_eq_true', List.all_eq_true, beq_iff_eq] at h
  obtain ⟨⟨⟨h1, h2⟩, h3⟩, h4⟩ := h
  rw [dTx_10 d hd]
  exact Fl.tok (w := [104, 48 + d]) ⟨by show 0 < 2; decide, h1, Or.inl ⟨h2, h3, by show 2 ≤ 10; decide, hs, Or.inr ⟨h4, rfl, rfl⟩⟩⟩ hF
theorem hV_inj : ∀ d, d < 10 → ∀ e, e < 10 → hV d = hV e → d = e := by decide +kernel
theorem ct_0 : cTx 0 = [104, 111, 117, 115, 101, 32, 104] := by decide +kernel
theorem ct_1 : cTx 1 = [32, 97, 116, 32] := by decide +kernel
theorem ct_2 : cTx 2 = [32, 104, 105, 103, 104, 32] := by decide +kernel
theorem ct_3 : cTx 3 = [59, 10] := by decide +kernel
theorem ct_4 : cTx 4 = [108, 97, 119, 32, 99, 117, 114, 102, 101, 119, 32, 104] := by decide +kernel
theorem ct_5 : cTx 5 = [108, 97, 119, 32, 111, 112, 101, 110, 32, 104] := by decide +kernel
theorem ct_6 : cTx 6 = [108, 97, 119, 32, 114, 97, 105, 115, 101, 32, 104] := by decide +kernel
theorem ct_7 : cTx 7 = [32, 102, 114, 111, 109, 32] := by decide +kernel
theorem ct_8 : cTx 8 = [32, 98, 121, 32] := by decide +kernel
theorem ct_9 : cTx 9 = [32, 116, 111, 32] := by decide +kernel
theorem ct_10 : cTx 10 = [] := by decide +kernel
theorem ct_11 : cTx 11 = [32, 119, 104, 101, 110, 32] := by decide +kernel
theorem ct_12 : cTx 12 = [59] := by decide +kernel
theorem ct_13 : cTx 13 = [] := by decide +kernel
theorem ct_14 : cTx 14 = [100, 97, 121, 32] := by decide +kernel
theorem ct_15 : cTx 15 = [119, 111, 114, 115, 116, 32] := by decide +kernel
theorem ct_16 : cTx 16 = [108, 111, 115, 116, 32, 111, 102, 32, 104] := by decide +kernel
theorem ct_17 : cTx 17 = [99, 97, 115, 116, 32, 111, 102, 32, 104] := by decide +kernel
theorem ct_18 : cTx 18 = [104, 101, 105, 103, 104, 116, 32, 111, 102, 32, 104] := by decide +kernel
theorem ct_19 : cTx 19 = [43] := by decide +kernel
theorem ct_20 : cTx 20 = [45] := by decide +kernel
theorem ct_21 : cTx 21 = [42] := by decide +kernel
theorem ct_22 : cTx 22 = [47] := by decide +kernel
theorem ct_23 : cTx 23 = [109, 105, 110, 40] := by decide +kernel
theorem ct_24 : cTx 24 = [109, 97, 120, 40] := by decide +kernel
theorem ct_25 : cTx 25 = [60] := by decide +kernel
theorem ct_26 : cTx 26 = [62] := by decide +kernel
theorem ct_27 : cTx 27 = [61] := by decide +kernel
theorem ct_28 : cTx 28 = [60, 61] := by decide +kernel
theorem ct_29 : cTx 29 = [62, 61] := by decide +kernel
theorem ct_30 : cTx 30 = [32] := by decide +kernel
theorem ct_31 : cTx 31 = [45, 32, 40] := by decide +kernel
theorem ct_32 : cTx 32 = [41] := by decide +kernel
theorem ct_33 : cTx 33 = [40] := by decide +kernel
theorem ct_34 : cTx 34 = [44] := by decide +kernel
theorem ct_35 : cTx 35 = [115, 104, 97, 100, 101, 115, 32, 104] := by decide +kernel
theorem ct_36 : cTx 36 = [32, 104] := by decide +kernel
theorem ct_37 : cTx 37 = [100, 97, 114, 107, 32, 104] := by decide +kernel
theorem ct_38 : cTx 38 = [110, 111, 116, 91] := by decide +kernel
theorem ct_39 : cTx 39 = [93] := by decide +kernel
theorem ct_40 : cTx 40 = [91] := by decide +kernel
theorem ct_41 : cTx 41 = [97, 110, 100] := by decide +kernel
theorem ct_42 : cTx 42 = [111, 114] := by decide +kernel
/-- a node's tokens, with its branches' -/
def tl1 (n : Nat) (q : TN) (A B : List (Nat × Int64)) : List (Nat × Int64) := if kN q = 0 then [(40, Int64.ofNat (nuQ n q))] else if kN q = 1 then [(11, 0)] else if kN q = 2 then [(15, 0)] else if kN q = 3 then [(12, 0), (16, 0), (39, hV (nuQ n q))] else if kN q = 4 then [(13, 0), (16, 0), (39, hV (nuQ n q))] else if kN q = 5 then [(14, 0), (16, 0), (39, hV (nuQ n q))] else if kN q = 6 then [(31, 0), (24, 0)] ++ (A ++ [(25, 0)]) else if kN q = 7 then [(24, 0)] ++ (A ++ ([(25, 0), (30, 0), (24, 0)] ++ (B ++ [(25, 0)]))) else if kN q = 8 then [(24, 0)] ++ (A ++ ([(25, 0), (31, 0), (24, 0)] ++ (B ++ [(25, 0)]))) else if kN q = 9 then [(24, 0)] ++ (A ++ ([(25, 0), (32, 0), (24, 0)] ++ (B ++ [(25, 0)]))) else if kN q = 10 then [(24, 0)] ++ (A ++ ([(25, 0), (33, 0), (24, 0)] ++ (B ++ [(25, 0)]))) else if kN q = 11 then [(22, 0), (24, 0)] ++ (A ++ ([(29, 0)] ++ (B ++ [(25, 0)]))) else if kN q = 12 then [(23, 0), (24, 0)] ++ (A ++ ([(29, 0)] ++ (B ++ [(25, 0)]))) else if kN q = 20 then A ++ ([(34, 0)] ++ B) else if kN q = 21 then A ++ ([(35, 0)] ++ B) else if kN q = 22 then A ++ ([(36, 0)] ++ B) else if kN q = 23 then A ++ ([(37, 0)] ++ B) else if kN q = 24 then A ++ ([(38, 0)] ++ B) else if kN q = 25 then [(17, 0), (39, hV (nuQ n q)), (39, hV (otN n q))] else if kN q = 26 then [(18, 0), (39, hV (nuQ n q))] else if kN q = 29 then [(19, 0), (26, 0)] ++ (A ++ [(27, 0)]) else if kN q = 30 then [(26, 0)] ++ (A ++ ([(27, 0), (20, 0), (26, 0)] ++ (B ++ [(27, 0)]))) else [(26, 0)] ++ (A ++ ([(27, 0), (21, 0), (26, 0)] ++ (B ++ [(27, 0)])))
def tkL (n : Nat) : Nat → TN → List (Nat × Int64)
  | 0, _ => []
  | u + 1, q => tl1 n q (tkL n u (kdA q)) (tkL n u (kdB q))
/-- deep enough -/
def WfT (u : Nat) (q : TN) : Prop := if q.1 = true then 4 ≤ u + q.2.2 ∧ 2 ≤ u else 3 ≤ u + q.2.2 ∧ 1 ≤ u
theorem wf_A {u : Nat} {q : TN} (h : WfT (u + 1) q) (hk : hasA (kN q) = true) : WfT u (kdA q) := by
  obtain ⟨b, x, d⟩ := q
  unfold hasA at hk
  simp only [Bool.or_eq_true, Bool.and_eq_true, decide_eq_true_eq] at hk
  cases b with
  | false =>
    have e : kN (false, x, d) = kS x d := rfl
    have h2 := kS_lt x d
    have h3 : d ≤ 1 := by
      rcases Nat.lt_or_ge 1 d with c | c
      · have := kS_deep (x := x) c
        omega
      · exact c
    have h1 : 3 ≤ u + 1 + d ∧ 1 ≤ u + 1 := h
    show 3 ≤ u + (d + 1) ∧ 1 ≤ u
    omega
  | true =>
    have e : kN (true, x, d) = kT x d := rfl
    have h1 : 4 ≤ u + 1 + d ∧ 2 ≤ u + 1 := h
    by_cases c : kT x d < 25
    · have e2 : kdA (true, x, d) = (false, x * 3 + 7, d + 1) := if_pos c
      rw [e2]
      show 3 ≤ u + (d + 1) ∧ 1 ≤ u
      omega
    · have e2 : kdA (true, x, d) = (true, x * 3 + 5, d + 1) := if_neg c
      rw [e2]
      have h3 : d ≤ 1 := by
        rcases Nat.lt_or_ge 1 d with c | c
        · have := kT_deep (x := x) c
          omega
        · exact c
      show 4 ≤ u + (d + 1) ∧ 2 ≤ u
      omega
theorem wf_B {u : Nat} {q : TN} (h : WfT (u + 1) q) (hk : hasA (kN q) = true) : WfT u (kdB q) := by
  obtain ⟨b, x, d⟩ := q
  have ha := wf_A h hk
  cases b with
  | false => exact ha
  | true =>
    by_cases c : kT x d < 25
    · have e2 : kdA (true, x, d) = (false, x * 3 + 7, d + 1) := if_pos c
      have e3 : kdB (true, x, d) = (false, x * 5 + 1, d + 1) := if_pos c
      rw [e2] at ha
      rw [e3]
      exact ha
    · have e2 : kdA (true, x, d) = (true, x * 3 + 5, d + 1) := if_neg c
      have e3 : kdB (true, x, d) = (true, x * 7 + 3, d + 1) := if_neg c
      rw [e2] at ha
      rw [e3]
      exact ha
theorem wf_0 {q : TN} (h : WfT 0 q) : False := by
  unfold WfT at h
  split at h <;> omega
theorem kN_all (q : TN) : kN q = 0 ∨ kN q = 1 ∨ kN q = 2 ∨ kN q = 3 ∨ kN q = 4 ∨ kN q = 5 ∨ kN q = 6 ∨ kN q = 7 ∨ kN q = 8 ∨ kN q = 9 ∨ kN q = 10 ∨ kN q = 11 ∨ kN q = 12 ∨ kN q = 20 ∨ kN q = 21 ∨ kN q = 22 ∨ kN q = 23 ∨ kN q = 24 ∨ kN q = 25 ∨ kN q = 26 ∨ kN q = 29 ∨ kN q = 30 ∨ kN q = 31 := by
  have := kN_in q
  omega
theorem tl_0 {n u : Nat} {q : TN} (h : kN q = 0) : tkL n (u + 1) q = [(40, Int64.ofNat (nuQ n q))] := by
  show tl1 n q _ _ = _
  unfold tl1
  simp only [h]
  rfl
theorem tt_0 {n u : Nat} {q : TN} (h : kN q = 0) : txN n (u + 1) q = ((([] : List Nat) ++ cTx 13) ++ dTx (nuQ n q)) := by
  show tx1 n q _ _ = _
  unfold tx1
  simp only [h]
  rfl
theorem fl_0 {n : Nat} (hn : 1 ≤ n) (hn2 : n ≤ 9) {u : Nat} {q : TN} (h : kN q = 0)  : ∀ J B, Fl J B → Sep B → Fl (tkL n (u + 1) q ++ J) (txN n (u + 1) q ++ B) ∧ ¬ sB (hdT (txN n (u + 1) q ++ B)) = 61 := by
  intro J B hF hs
  rw [tl_0 h, tt_0 h, ct_13]
  simp only [List.append_assoc, List.cons_append, List.nil_append]
  exact ⟨(Fl.nm (nm_big (by omega) (by omega) q) hs hF), (eq_n (nm_big (by omega) (by omega) q))⟩
theorem tl_1 {n u : Nat} {q : TN} (h : kN q = 1) : tkL n (u + 1) q = [(11, 0)] := by
  show tl1 n q _ _ = _
  unfold tl1
  simp only [h]
  rfl
theorem tt_1 {n u : Nat} {q : TN} (h : kN q = 1) : txN n (u + 1) q = cTx 14 := by
  show tx1 n q _ _ = _
  unfold tx1
  simp only [h]
  rfl
theorem fl_1 {n : Nat} (hn : 1 ≤ n) (hn2 : n ≤ 9) {u : Nat} {q : TN} (h : kN q = 1)  : ∀ J B, Fl J B → Sep B → Fl (tkL n (u + 1) q ++ J) (txN n (u + 1) q ++ B) ∧ ¬ sB (hdT (txN n (u + 1) q ++ B)) = 61 := by
  intro J B hF hs
  rw [tl_1 h, tt_1 h, ct_14]
  simp only [List.append_assoc, List.cons_append, List.nil_append]
  exact ⟨(Fl.wd (w := [100, 97, 121]) (k := 11) (by decide +kernel) (sep_c (c := 32) (by decide)) (Fl.bl (c := 32) (by decide) hF)), (eq_c (c := 100) (by decide))⟩
theorem tl_2 {n u : Nat} {q : TN} (h : kN q = 2) : tkL n (u + 1) q = [(15, 0)] := by
  show tl1 n q _ _ = _
  unfold tl1
  simp only [h]
  rfl
theorem tt_2 {n u : Nat} {q : TN} (h : kN q = 2) : txN n (u + 1) q = cTx 15 := by
  show tx1 n q _ _ = _
  unfold tx1
  simp only [h]
  rfl
theorem fl_2 {n : Nat} (hn : 1 ≤ n) (hn2 : n ≤ 9) {u : Nat} {q : TN} (h : kN q = 2)  : ∀ J B, Fl J B → Sep B → Fl (tkL n (u + 1) q ++ J) (txN n (u + 1) q ++ B) ∧ ¬ sB (hdT (txN n (u + 1) q ++ B)) = 61 := by
  intro J B hF hs
  rw [tl_2 h, tt_2 h, ct_15]
  simp only [List.append_assoc, List.cons_append, List.nil_append]
  exact ⟨(Fl.wd (w := [119, 111, 114, 115, 116]) (k := 15) (by decide +kernel) (sep_c (c := 32) (by decide)) (Fl.bl (c := 32) (by decide) hF)), (eq_c (c := 119) (by decide))⟩
theorem tl_3 {n u : Nat} {q : TN} (h : kN q = 3) : tkL n (u + 1) q = [(12, 0), (16, 0), (39, hV (nuQ n q))] := by
  show tl1 n q _ _ = _
  unfold tl1
  simp only [h]
  rfl
theorem tt_3 {n u : Nat} {q : TN} (h : kN q = 3) : txN n (u + 1) q = (((([] : List Nat) ++ cTx 16) ++ dTx (nuQ n q)) ++ cTx 30) := by
  show tx1 n q _ _ = _
  unfold tx1
  simp only [h]
  rfl
theorem fl_3 {n : Nat} (hn : 1 ≤ n) (hn2 : n ≤ 9) {u : Nat} {q : TN} (h : kN q = 3)  : ∀ J B, Fl J B → Sep B → Fl (tkL n (u + 1) q ++ J) (txN n (u + 1) q ++ B) ∧ ¬ sB (hdT (txN n (u + 1) q ++ B)) = 61 := by
  intro J B hF hs
  rw [tl_3 h, tt_3 h, ct_16, ct_30]
  simp only [List.append_assoc, List.cons_append, List.nil_append]
  exact ⟨(Fl.wd (w := [108, 111, 115, 116]) (k := 12) (by decide +kernel) (sep_c (c := 32) (by decide)) (Fl.bl (c := 32) (by decide) (Fl.wd (w := [111, 102]) (k := 16) (by decide +kernel) (sep_c (c := 32) (by decide)) (Fl.bl (c := 32) (by decide) (Fl.na (by have := nm_lt (n := n) (by omega) (q := q) (by omega); omega) (sep_c (c := 32) (by decide)) (Fl.bl (c := 32) (by decide) hF)))))), (eq_c (c := 108) (by decide))⟩
theorem tl_4 {n u : Nat} {q : TN} (h : kN q = 4) : tkL n (u + 1) q = [(13, 0), (16, 0), (39, hV (nuQ n q))] := by
  show tl1 n q _ _ = _
  unfold tl1
  simp only [h]
  rfl
theorem tt_4 {n u : Nat} {q : TN} (h : kN q = 4) : txN n (u + 1) q = (((([] : List Nat) ++ cTx 17) ++ dTx (nuQ n q)) ++ cTx 30) := by
  show tx1 n q _ _ = _
  unfold tx1
  simp only [h]
  rfl
theorem fl_4 {n : Nat} (hn : 1 ≤ n) (hn2 : n ≤ 9) {u : Nat} {q : TN} (h : kN q = 4)  : ∀ J B, Fl J B → Sep B → Fl (tkL n (u + 1) q ++ J) (txN n (u + 1) q ++ B) ∧ ¬ sB (hdT (txN n (u + 1) q ++ B)) = 61 := by
  intro J B hF hs
  rw [tl_4 h, tt_4 h, ct_17, ct_30]
  simp only [List.append_assoc, List.cons_append, List.nil_append]
  exact ⟨(Fl.wd (w := [99, 97, 115, 116]) (k := 13) (by decide +kernel) (sep_c (c := 32) (by decide)) (Fl.bl (c := 32) (by decide) (Fl.wd (w := [111, 102]) (k := 16) (by decide +kernel) (sep_c (c := 32) (by decide)) (Fl.bl (c := 32) (by decide) (Fl.na (by have := nm_lt (n := n) (by omega) (q := q) (by omega); omega) (sep_c (c := 32) (by decide)) (Fl.bl (c := 32) (by decide) hF)))))), (eq_c (c := 99) (by decide))⟩
theorem tl_5 {n u : Nat} {q : TN} (h : kN q = 5) : tkL n (u + 1) q = [(14, 0), (16, 0), (39, hV (nuQ n q))] := by
  show tl1 n q _ _ = _
  unfold tl1
  simp only [h]
  rfl
theorem tt_5 {n u : Nat} {q : TN} (h : kN q = 5) : txN n (u + 1) q = (((([] : List Nat) ++ cTx 18) ++ dTx (nuQ n q)) ++ cTx 30) := by
  show tx1 n q _ _ = _
  unfold tx1
  simp only [h]
  rfl
theorem fl_5 {n : Nat} (hn : 1 ≤ n) (hn2 : n ≤ 9) {u : Nat} {q : TN} (h : kN q = 5)  : ∀ J B, Fl J B → Sep B → Fl (tkL n (u + 1) q ++ J) (txN n (u + 1) q ++ B) ∧ ¬ sB (hdT (txN n (u + 1) q ++ B)) = 61 := by
  intro J B hF hs
  rw [tl_5 h, tt_5 h, ct_18, ct_30]
  simp only [List.append_assoc, List.cons_append, List.nil_append]
  exact ⟨(Fl.wd (w := [104, 101, 105, 103, 104, 116]) (k := 14) (by decide +kernel) (sep_c (c := 32) (by decide)) (Fl.bl (c := 32) (by decide) (Fl.wd (w := [111, 102]) (k := 16) (by decide +kernel) (sep_c (c := 32) (by decide)) (Fl.bl (c := 32) (by decide) (Fl.na (by have := nm_lt (n := n) (by omega) (q := q) (by omega); omega) (sep_c (c := 32) (by decide)) (Fl.bl (c := 32) (by decide) hF)))))), (eq_c (c := 104) (by decide))⟩
theorem tl_6 {n u : Nat} {q : TN} (h : kN q = 6) : tkL n (u + 1) q = [(31, 0), (24, 0)] ++ (tkL n u (kdA q) ++ [(25, 0)]) := by
  show tl1 n q _ _ = _
  unfold tl1
  simp only [h]
  rfl
theorem tt_6 {n u : Nat} {q : TN} (h : kN q = 6) : txN n (u + 1) q = (((([] : List Nat) ++ cTx 31) ++ txN n u (kdA q)) ++ cTx 32) := by
  show tx1 n q _ _ = _
  unfold tx1
  simp only [h]
  rfl
theorem fl_6 {n : Nat} (hn : 1 ≤ n) (hn2 : n ≤ 9) {u : Nat} {q : TN} (h : kN q = 6) (iA : ∀ J B, Fl J B → Sep B → Fl (tkL n u (kdA q) ++ J) (txN n u (kdA q) ++ B) ∧ ¬ sB (hdT (txN n u (kdA q) ++ B)) = 61) (iB : ∀ J B, Fl J B → Sep B → Fl (tkL n u (kdB q) ++ J) (txN n u (kdB q) ++ B) ∧ ¬ sB (hdT (txN n u (kdB q) ++ B)) = 61) : ∀ J B, Fl J B → Sep B → Fl (tkL n (u + 1) q ++ J) (txN n (u + 1) q ++ B) ∧ ¬ sB (hdT (txN n (u + 1) q ++ B)) = 61 := by
  intro J B hF hs
  rw [tl_6 h, tt_6 h, ct_31, ct_32]
  simp only [List.append_assoc, List.cons_append, List.nil_append]
  exact ⟨(Fl.sy (c := 45) (k := 31) (by decide) (Fl.bl (c := 32) (by decide) (Fl.sy (c := 40) (k := 24) (by decide) (iA _ _ (Fl.sy (c := 41) (k := 25) (by decide) hF) (sep_c (c := 41) (by decide))).1))), (eq_c (c := 45) (by decide))⟩
theorem tl_7 {n u : Nat} {q : TN} (h : kN q = 7) : tkL n (u + 1) q = [(24, 0)] ++ (tkL n u (kdA q) ++ ([(25, 0), (30, 0), (24, 0)] ++ (tkL n u (kdB q) ++ [(25, 0)]))) := by
  show tl1 n q _ _ = _
  unfold tl1
  simp only [h]
  rfl
theorem tt_7 {n u : Nat} {q : TN} (h : kN q = 7) : txN n (u + 1) q = (((((((([] : List Nat) ++ cTx 33) ++ txN n u (kdA q)) ++ cTx 32) ++ cTx 19) ++ cTx 33) ++ txN n u (kdB q)) ++ cTx 32) := by
  show tx1 n q _ _ = _
  unfold tx1
  simp only [h]
  rfl
theorem fl_7 {n : Nat} (hn : 1 ≤ n) (hn2 : n ≤ 9) {u : Nat} {q : TN} (h : kN q = 7) (iA : ∀ J B, Fl J B → Sep B → Fl (tkL n u (kdA q) ++ J) (txN n u (kdA q) ++ B) ∧ ¬ sB (hdT (txN n u (kdA q) ++ B)) = 61) (iB : ∀ J B, Fl J B → Sep B → Fl (tkL n u (kdB q) ++ J) (txN n u (kdB q) ++ B) ∧ ¬ sB (hdT (txN n u (kdB q) ++ B)) = 61) : ∀ J B, Fl J B → Sep B → Fl (tkL n (u + 1) q ++ J) (txN n (u + 1) q ++ B) ∧ ¬ sB (hdT (txN n (u + 1) q ++ B)) = 61 := by
  intro J B hF hs
  rw [tl_7 h, tt_7 h, ct_19, ct_32, ct_33]
  simp only [List.append_assoc, List.cons_append, List.nil_append]
  exact ⟨(Fl.sy (c := 40) (k := 24) (by decide) (iA _ _ (Fl.sy (c := 41) (k := 25) (by decide) (Fl.sy (c := 43) (k := 30) (by decide) (Fl.sy (c := 40) (k := 24) (by decide) (iB _ _ (Fl.sy (c := 41) (k := 25) (by decide) hF) (sep_c (c := 41) (by decide))).1))) (sep_c (c := 41) (by decide))).1), (eq_c (c := 40) (by decide))⟩
theorem tl_8 {n u : Nat} {q : TN} (h : kN q = 8) : tkL n (u + 1) q = [(24, 0)] ++ (tkL n u (kdA q) ++ ([(25, 0), (31, 0), (24, 0)] ++ (tkL n u (kdB q) ++ [(25, 0)]))) := by
  show tl1 n q _ _ = _
  unfold tl1
  simp only [h]
  rfl
theorem tt_8 {n u : Nat} {q : TN} (h : kN q = 8) : txN n (u + 1) q = (((((((([] : List Nat) ++ cTx 33) ++ txN n u (kdA q)) ++ cTx 32) ++ cTx 20) ++ cTx 33) ++ txN n u (kdB q)) ++ cTx 32) := by
  show tx1 n q _ _ = _
  unfold tx1
  simp only [h]
  rfl
theorem fl_8 {n : Nat} (hn : 1 ≤ n) (hn2 : n ≤ 9) {u : Nat} {q : TN} (h : kN q = 8) (iA : ∀ J B, Fl J B → Sep B → Fl (tkL n u (kdA q) ++ J) (txN n u (kdA q) ++ B) ∧ ¬ sB (hdT (txN n u (kdA q) ++ B)) = 61) (iB : ∀ J B, Fl J B → Sep B → Fl (tkL n u (kdB q) ++ J) (txN n u (kdB q) ++ B) ∧ ¬ sB (hdT (txN n u (kdB q) ++ B)) = 61) : ∀ J B, Fl J B → Sep B → Fl (tkL n (u + 1) q ++ J) (txN n (u + 1) q ++ B) ∧ ¬ sB (hdT (txN n (u + 1) q ++ B)) = 61 := by
  intro J B hF hs
  rw [tl_8 h, tt_8 h, ct_20, ct_32, ct_33]
  simp only [List.append_assoc, List.cons_append, List.nil_append]
  exact ⟨(Fl.sy (c := 40) (k := 24) (by decide) (iA _ _ (Fl.sy (c := 41) (k := 25) (by decide) (Fl.sy (c := 45) (k := 31) (by decide) (Fl.sy (c := 40) (k := 24) (by decide) (iB _ _ (Fl.sy (c := 41) (k := 25) (by decide) hF) (sep_c (c := 41) (by decide))).1))) (sep_c (c := 41) (by decide))).1), (eq_c (c := 40) (by decide))⟩
theorem tl_9 {n u : Nat} {q : TN} (h : kN q = 9) : tkL n (u + 1) q = [(24, 0)] ++ (tkL n u (kdA q) ++ ([(25, 0), (32, 0), (24, 0)] ++ (tkL n u (kdB q) ++ [(25, 0)]))) := by
  show tl1 n q _ _ = _
  unfold tl1
  simp only [h]
  rfl
theorem tt_9 {n u : Nat} {q : TN} (h : kN q = 9) : txN n (u + 1) q = (((((((([] : List Nat) ++ cTx 33) ++ txN n u (kdA q)) ++ cTx 32) ++ cTx 21) ++ cTx 33) ++ txN n u (kdB q)) ++ cTx 32) := by
  show tx1 n q _ _ = _
  unfold tx1
  simp only [h]
  rfl
theorem fl_9 {n : Nat} (hn : 1 ≤ n) (hn2 : n ≤ 9) {u : Nat} {q : TN} (h : kN q = 9) (iA : ∀ J B, Fl J B → Sep B → Fl (tkL n u (kdA q) ++ J) (txN n u (kdA q) ++ B) ∧ ¬ sB (hdT (txN n u (kdA q) ++ B)) = 61) (iB : ∀ J B, Fl J B → Sep B → Fl (tkL n u (kdB q) ++ J) (txN n u (kdB q) ++ B) ∧ ¬ sB (hdT (txN n u (kdB q) ++ B)) = 61) : ∀ J B, Fl J B → Sep B → Fl (tkL n (u + 1) q ++ J) (txN n (u + 1) q ++ B) ∧ ¬ sB (hdT (txN n (u + 1) q ++ B)) = 61 := by
  intro J B hF hs
  rw [tl_9 h, tt_9 h, ct_21, ct_32, ct_33]
  simp only [List.append_assoc, List.cons_append, List.nil_append]
  exact ⟨(Fl.sy (c := 40) (k := 24) (by decide) (iA _ _ (Fl.sy (c := 41) (k := 25) (by decide) (Fl.sy (c := 42) (k := 32) (by decide) (Fl.sy (c := 40) (k := 24) (by decide) (iB _ _ (Fl.sy (c := 41) (k := 25) (by decide) hF) (sep_c (c := 41) (by decide))).1))) (sep_c (c := 41) (by decide))).1), (eq_c (c := 40) (by decide))⟩
theorem tl_10 {n u : Nat} {q : TN} (h : kN q = 10) : tkL n (u + 1) q = [(24, 0)] ++ (tkL n u (kdA q) ++ ([(25, 0), (33, 0), (24, 0)] ++ (tkL n u (kdB q) ++ [(25, 0)]))) := by
  show tl1 n q _ _ = _
  unfold tl1
  simp only [h]
  rfl
theorem tt_10 {n u : Nat} {q : TN} (h : kN q = 10) : txN n (u + 1) q = (((((((([] : List Nat) ++ cTx 33) ++ txN n u (kdA q)) ++ cTx 32) ++ cTx 22) ++ cTx 33) ++ txN n u (kdB q)) ++ cTx 32) := by
  show tx1 n q _ _ = _
  unfold tx1
  simp only [h]
  rfl
theorem fl_10 {n : Nat} (hn : 1 ≤ n) (hn2 : n ≤ 9) {u : Nat} {q : TN} (h : kN q = 10) (iA : ∀ J B, Fl J B → Sep B → Fl (tkL n u (kdA q) ++ J) (txN n u (kdA q) ++ B) ∧ ¬ sB (hdT (txN n u (kdA q) ++ B)) = 61) (iB : ∀ J B, Fl J B → Sep B → Fl (tkL n u (kdB q) ++ J) (txN n u (kdB q) ++ B) ∧ ¬ sB (hdT (txN n u (kdB q) ++ B)) = 61) : ∀ J B, Fl J B → Sep B → Fl (tkL n (u + 1) q ++ J) (txN n (u + 1) q ++ B) ∧ ¬ sB (hdT (txN n (u + 1) q ++ B)) = 61 := by
  intro J B hF hs
  rw [tl_10 h, tt_10 h, ct_22, ct_32, ct_33]
  simp only [List.append_assoc, List.cons_append, List.nil_append]
  exact ⟨(Fl.sy (c := 40) (k := 24) (by decide) (iA _ _ (Fl.sy (c := 41) (k := 25) (by decide) (Fl.sy (c := 47) (k := 33) (by decide) (Fl.sy (c := 40) (k := 24) (by decide) (iB _ _ (Fl.sy (c := 41) (k := 25) (by decide) hF) (sep_c (c := 41) (by decide))).1))) (sep_c (c := 41) (by decide))).1), (eq_c (c := 40) (by decide))⟩
theorem tl_11 {n u : Nat} {q : TN} (h : kN q = 11) : tkL n (u + 1) q = [(22, 0), (24, 0)] ++ (tkL n u (kdA q) ++ ([(29, 0)] ++ (tkL n u (kdB q) ++ [(25, 0)]))) := by
  show tl1 n q _ _ = _
  unfold tl1
  simp only [h]
  rfl
theorem tt_11 {n u : Nat} {q : TN} (h : kN q = 11) : txN n (u + 1) q = (((((([] : List Nat) ++ cTx 23) ++ txN n u (kdA q)) ++ cTx 34) ++ txN n u (kdB q)) ++ cTx 32) := by
  show tx1 n q _ _ = _
  unfold tx1
  simp only [h]
  rfl
theorem fl_11 {n : Nat} (hn : 1 ≤ n) (hn2 : n ≤ 9) {u : Nat} {q : TN} (h : kN q = 11) (iA : ∀ J B, Fl J B → Sep B → Fl (tkL n u (kdA q) ++ J) (txN n u (kdA q) ++ B) ∧ ¬ sB (hdT (txN n u (kdA q) ++ B)) = 61) (iB : ∀ J B, Fl J B → Sep B → Fl (tkL n u (kdB q) ++ J) (txN n u (kdB q) ++ B) ∧ ¬ sB (hdT (txN n u (kdB q) ++ B)) = 61) : ∀ J B, Fl J B → Sep B → Fl (tkL n (u + 1) q ++ J) (txN n (u + 1) q ++ B) ∧ ¬ sB (hdT (txN n (u + 1) q ++ B)) = 61 := by
  intro J B hF hs
  rw [tl_11 h, tt_11 h, ct_23, ct_32, ct_34]
  simp only [List.append_assoc, List.cons_append, List.nil_append]
  exact ⟨(Fl.wd (w := [109, 105, 110]) (k := 22) (by decide +kernel) (sep_c (c := 40) (by decide)) (Fl.sy (c := 40) (k := 24) (by decide) (iA _ _ (Fl.sy (c := 44) (k := 29) (by decide) (iB _ _ (Fl.sy (c := 41) (k := 25) (by decide) hF) (sep_c (c := 41) (by decide))).1) (sep_c (c := 44) (by decide))).1)), (eq_c (c := 109) (by decide))⟩
theorem tl_12 {n u : Nat} {q : TN} (h : kN q = 12) : tkL n (u + 1) q = [(23, 0), (24, 0)] ++ (tkL n u (kdA q) ++ ([(29, 0)] ++ (tkL n u (kdB q) ++ [(25, 0)]))) := by
  show tl1 n q _ _ = _
  unfold tl1
  simp only [h]
  rfl
theorem tt_12 {n u : Nat} {q : TN} (h : kN q = 12) : txN n (u + 1) q = (((((([] : List Nat) ++ cTx 24) ++ txN n u (kdA q)) ++ cTx 34) ++ txN n u (kdB q)) ++ cTx 32) := by
  show tx1 n q _ _ = _
  unfold tx1
  simp only [h]
  rfl
theorem fl_12 {n : Nat} (hn : 1 ≤ n) (hn2 : n ≤ 9) {u : Nat} {q : TN} (h : kN q = 12) (iA : ∀ J B, Fl J B → Sep B → Fl (tkL n u (kdA q) ++ J) (txN n u (kdA q) ++ B) ∧ ¬ sB (hdT (txN n u (kdA q) ++ B)) = 61) (iB : ∀ J B, Fl J B → Sep B → Fl (tkL n u (kdB q) ++ J) (txN n u (kdB q) ++ B) ∧ ¬ sB (hdT (txN n u (kdB q) ++ B)) = 61) : ∀ J B, Fl J B → Sep B → Fl (tkL n (u + 1) q ++ J) (txN n (u + 1) q ++ B) ∧ ¬ sB (hdT (txN n (u + 1) q ++ B)) = 61 := by
  intro J B hF hs
  rw [tl_12 h, tt_12 h, ct_24, ct_32, ct_34]
  simp only [List.append_assoc, List.cons_append, List.nil_append]
  exact ⟨(Fl.wd (w := [109, 97, 120]) (k := 23) (by decide +kernel) (sep_c (c := 40) (by decide)) (Fl.sy (c := 40) (k := 24) (by decide) (iA _ _ (Fl.sy (c := 44) (k := 29) (by decide) (iB _ _ (Fl.sy (c := 41) (k := 25) (by decide) hF) (sep_c (c := 41) (by decide))).1) (sep_c (c := 44) (by decide))).1)), (eq_c (c := 109) (by decide))⟩
theorem tl_20 {n u : Nat} {q : TN} (h : kN q = 20) : tkL n (u + 1) q = tkL n u (kdA q) ++ ([(34, 0)] ++ tkL n u (kdB q)) := by
  show tl1 n q _ _ = _
  unfold tl1
  simp only [h]
  rfl
theorem tt_20 {n u : Nat} {q : TN} (h : kN q = 20) : txN n (u + 1) q = (((([] : List Nat) ++ txN n u (kdA q)) ++ cTx 25) ++ txN n u (kdB q)) := by
  show tx1 n q _ _ = _
  unfold tx1
  simp only [h]
  rfl
theorem fl_20 {n : Nat} (hn : 1 ≤ n) (hn2 : n ≤ 9) {u : Nat} {q : TN} (h : kN q = 20) (iA : ∀ J B, Fl J B → Sep B → Fl (tkL n u (kdA q) ++ J) (txN n u (kdA q) ++ B) ∧ ¬ sB (hdT (txN n u (kdA q) ++ B)) = 61) (iB : ∀ J B, Fl J B → Sep B → Fl (tkL n u (kdB q) ++ J) (txN n u (kdB q) ++ B) ∧ ¬ sB (hdT (txN n u (kdB q) ++ B)) = 61) : ∀ J B, Fl J B → Sep B → Fl (tkL n (u + 1) q ++ J) (txN n (u + 1) q ++ B) ∧ ¬ sB (hdT (txN n (u + 1) q ++ B)) = 61 := by
  intro J B hF hs
  rw [tl_20 h, tt_20 h, ct_25]
  simp only [List.append_assoc, List.cons_append, List.nil_append]
  exact ⟨(iA _ _ (Fl.lt (iB _ _ hF hs).2 (iB _ _ hF hs).1) (sep_c (c := 60) (by decide))).1, (iA _ _ (Fl.lt (iB _ _ hF hs).2 (iB _ _ hF hs).1) (sep_c (c := 60) (by decide))).2⟩
theorem tl_21 {n u : Nat} {q : TN} (h : kN q = 21) : tkL n (u + 1) q = tkL n u (kdA q) ++ ([(35, 0)] ++ tkL n u (kdB q)) := by
  show tl1 n q _ _ = _
  unfold tl1
  simp only [h]
  rfl
theorem tt_21 {n u : Nat} {q : TN} (h : kN q = 21) : txN n (u + 1) q = (((([] : List Nat) ++ txN n u (kdA q)) ++ cTx 26) ++ txN n u (kdB q)) := by
  show tx1 n q _ _ = _
  unfold tx1
  simp only [h]
  rfl
theorem fl_21 {n : Nat} (hn : 1 ≤ n) (hn2 : n ≤ 9) {u : Nat} {q : TN} (h : kN q = 21) (iA : ∀ J B, Fl J B → Sep B → Fl (tkL n u (kdA q) ++ J) (txN n u (kdA q) ++ B) ∧ ¬ sB (hdT (txN n u (kdA q) ++ B)) = 61) (iB : ∀ J B, Fl J B → Sep B → Fl (tkL n u (kdB q) ++ J) (txN n u (kdB q) ++ B) ∧ ¬ sB (hdT (txN n u (kdB q) ++ B)) = 61) : ∀ J B, Fl J B → Sep B → Fl (tkL n (u + 1) q ++ J) (txN n (u + 1) q ++ B) ∧ ¬ sB (hdT (txN n (u + 1) q ++ B)) = 61 := by
  intro J B hF hs
  rw [tl_21 h, tt_21 h, ct_26]
  simp only [List.append_assoc, List.cons_append, List.nil_append]
  exact ⟨(iA _ _ (Fl.gt (iB _ _ hF hs).2 (iB _ _ hF hs).1) (sep_c (c := 62) (by decide))).1, (iA _ _ (Fl.gt (iB _ _ hF hs).2 (iB _ _ hF hs).1) (sep_c (c := 62) (by decide))).2⟩
theorem tl_22 {n u : Nat} {q : TN} (h : kN q = 22) : tkL n (u + 1) q = tkL n u (kdA q) ++ ([(36, 0)] ++ tkL n u (kdB q)) := by
  show tl1 n q _ _ = _
  unfold tl1
  simp only [h]
  rfl
theorem tt_22 {n u : Nat} {q : TN} (h : kN q = 22) : txN n (u + 1) q = (((([] : List Nat) ++ txN n u (kdA q)) ++ cTx 27) ++ txN n u (kdB q)) := by
  show tx1 n q _ _ = _
  unfold tx1
  simp only [h]
  rfl
theorem fl_22 {n : Nat} (hn : 1 ≤ n) (hn2 : n ≤ 9) {u : Nat} {q : TN} (h : kN q = 22) (iA : ∀ J B, Fl J B → Sep B → Fl (tkL n u (kdA q) ++ J) (txN n u (kdA q) ++ B) ∧ ¬ sB (hdT (txN n u (kdA q) ++ B)) = 61) (iB : ∀ J B, Fl J B → Sep B → Fl (tkL n u (kdB q) ++ J) (txN n u (kdB q) ++ B) ∧ ¬ sB (hdT (txN n u (kdB q) ++ B)) = 61) : ∀ J B, Fl J B → Sep B → Fl (tkL n (u + 1) q ++ J) (txN n (u + 1) q ++ B) ∧ ¬ sB (hdT (txN n (u + 1) q ++ B)) = 61 := by
  intro J B hF hs
  rw [tl_22 h, tt_22 h, ct_27]
  simp only [List.append_assoc, List.cons_append, List.nil_append]
  exact ⟨(iA _ _ (Fl.sy (c := 61) (k := 36) (by decide) (iB _ _ hF hs).1) (sep_c (c := 61) (by decide))).1, (iA _ _ (Fl.sy (c := 61) (k := 36) (by decide) (iB _ _ hF hs).1) (sep_c (c := 61) (by decide))).2⟩
theorem tl_23 {n u : Nat} {q : TN} (h : kN q = 23) : tkL n (u + 1) q = tkL n u (kdA q) ++ ([(37, 0)] ++ tkL n u (kdB q)) := by
  show tl1 n q _ _ = _
  unfold tl1
  simp only [h]
  rfl
theorem tt_23 {n u : Nat} {q : TN} (h : kN q = 23) : txN n (u + 1) q = (((([] : List Nat) ++ txN n u (kdA q)) ++ cTx 28) ++ txN n u (kdB q)) := by
  show tx1 n q _ _ = _
  unfold tx1
  simp only [h]
  rfl
theorem fl_23 {n : Nat} (hn : 1 ≤ n) (hn2 : n ≤ 9) {u : Nat} {q : TN} (h : kN q = 23) (iA : ∀ J B, Fl J B → Sep B → Fl (tkL n u (kdA q) ++ J) (txN n u (kdA q) ++ B) ∧ ¬ sB (hdT (txN n u (kdA q) ++ B)) = 61) (iB : ∀ J B, Fl J B → Sep B → Fl (tkL n u (kdB q) ++ J) (txN n u (kdB q) ++ B) ∧ ¬ sB (hdT (txN n u (kdB q) ++ B)) = 61) : ∀ J B, Fl J B → Sep B → Fl (tkL n (u + 1) q ++ J) (txN n (u + 1) q ++ B) ∧ ¬ sB (hdT (txN n (u + 1) q ++ B)) = 61 := by
  intro J B hF hs
  rw [tl_23 h, tt_23 h, ct_28]
  simp only [List.append_assoc, List.cons_append, List.nil_append]
  exact ⟨(iA _ _ (Fl.le (iB _ _ hF hs).1) (sep_c (c := 60) (by decide))).1, (iA _ _ (Fl.le (iB _ _ hF hs).1) (sep_c (c := 60) (by decide))).2⟩
theorem tl_24 {n u : Nat} {q : TN} (h : kN q = 24) : tkL n (u + 1) q = tkL n u (kdA q) ++ ([(38, 0)] ++ tkL n u (kdB q)) := by
  show tl1 n q _ _ = _
  unfold tl1
  simp only [h]
  rfl
theorem tt_24 {n u : Nat} {q : TN} (h : kN q = 24) : txN n (u + 1) q = (((([] : List Nat) ++ txN n u (kdA q)) ++ cTx 29) ++ txN n u (kdB q)) := by
  show tx1 n q _ _ = _
  unfold tx1
  simp only [h]
  rfl
theorem fl_24 {n : Nat} (hn : 1 ≤ n) (hn2 : n ≤ 9) {u : Nat} {q : TN} (h : kN q = 24) (iA : ∀ J B, Fl J B → Sep B → Fl (tkL n u (kdA q) ++ J) (txN n u (kdA q) ++ B) ∧ ¬ sB (hdT (txN n u (kdA q) ++ B)) = 61) (iB : ∀ J B, Fl J B → Sep B → Fl (tkL n u (kdB q) ++ J) (txN n u (kdB q) ++ B) ∧ ¬ sB (hdT (txN n u (kdB q) ++ B)) = 61) : ∀ J B, Fl J B → Sep B → Fl (tkL n (u + 1) q ++ J) (txN n (u + 1) q ++ B) ∧ ¬ sB (hdT (txN n (u + 1) q ++ B)) = 61 := by
  intro J B hF hs
  rw [tl_24 h, tt_24 h, ct_29]
  simp only [List.append_assoc, List.cons_append, List.nil_append]
  exact ⟨(iA _ _ (Fl.ge (iB _ _ hF hs).1) (sep_c (c := 62) (by decide))).1, (iA _ _ (Fl.ge (iB _ _ hF hs).1) (sep_c (c := 62) (by decide))).2⟩
theorem tl_25 {n u : Nat} {q : TN} (h : kN q = 25) : tkL n (u + 1) q = [(17, 0), (39, hV (nuQ n q)), (39, hV (otN n q))] := by
  show tl1 n q _ _ = _
  unfold tl1
  simp only [h]
  rfl
theorem tt_25 {n u : Nat} {q : TN} (h : kN q = 25) : txN n (u + 1) q = (((((([] : List Nat) ++ cTx 35) ++ dTx (nuQ n q)) ++ cTx 36) ++ dTx (otN n q)) ++ cTx 30) := by
  show tx1 n q _ _ = _
  unfold tx1
  simp only [h]
  rfl
theorem fl_25 {n : Nat} (hn : 1 ≤ n) (hn2 : n ≤ 9) {u : Nat} {q : TN} (h : kN q = 25)  : ∀ J B, Fl J B → Sep B → Fl (tkL n (u + 1) q ++ J) (txN n (u + 1) q ++ B) ∧ ¬ sB (hdT (txN n (u + 1) q ++ B)) = 61 := by
  intro J B hF hs
  rw [tl_25 h, tt_25 h, ct_30, ct_35, ct_36]
  simp only [List.append_assoc, List.cons_append, List.nil_append]
  exact ⟨(Fl.wd (w := [115, 104, 97, 100, 101, 115]) (k := 17) (by decide +kernel) (sep_c (c := 32) (by decide)) (Fl.bl (c := 32) (by decide) (Fl.na (by have := nm_lt (n := n) (by omega) (q := q) (by omega); omega) (sep_c (c := 32) (by decide)) (Fl.bl (c := 32) (by decide) (Fl.na (by have := ot_lt (n := n) (by omega) q; omega) (sep_c (c := 32) (by decide)) (Fl.bl (c := 32) (by decide) hF)))))), (eq_c (c := 115) (by decide))⟩
theorem tl_26 {n u : Nat} {q : TN} (h : kN q = 26) : tkL n (u + 1) q = [(18, 0), (39, hV (nuQ n q))] := by
  show tl1 n q _ _ = _
  unfold tl1
  simp only [h]
  rfl
theorem tt_26 {n u : Nat} {q : TN} (h : kN q = 26) : txN n (u + 1) q = (((([] : List Nat) ++ cTx 37) ++ dTx (nuQ n q)) ++ cTx 30) := by
  show tx1 n q _ _ = _
  unfold tx1
  simp only [h]
  rfl
theorem fl_26 {n : Nat} (hn : 1 ≤ n) (hn2 : n ≤ 9) {u : Nat} {q : TN} (h : kN q = 26)  : ∀ J B, Fl J B → Sep B → Fl (tkL n (u + 1) q ++ J) (txN n (u + 1) q ++ B) ∧ ¬ sB (hdT (txN n (u + 1) q ++ B)) = 61 := by
  intro J B hF hs
  rw [tl_26 h, tt_26 h, ct_30, ct_37]
  simp only [List.append_assoc, List.cons_append, List.nil_append]
  exact ⟨(Fl.wd (w := [100, 97, 114, 107]) (k := 18) (by decide +kernel) (sep_c (c := 32) (by decide)) (Fl.bl (c := 32) (by decide) (Fl.na (by have := nm_lt (n := n) (by omega) (q := q) (by omega); omega) (sep_c (c := 32) (by decide)) (Fl.bl (c := 32) (by decide) hF)))), (eq_c (c := 100) (by decide))⟩
theorem tl_29 {n u : Nat} {q : TN} (h : kN q = 29) : tkL n (u + 1) q = [(19, 0), (26, 0)] ++ (tkL n u (kdA q) ++ [(27, 0)]) := by
  show tl1 n q _ _ = _
  unfold tl1
  simp only [h]
  rfl
theorem tt_29 {n u : Nat} {q : TN} (h : kN q = 29) : txN n (u + 1) q = (((([] : List Nat) ++ cTx 38) ++ txN n u (kdA q)) ++ cTx 39) := by
  show tx1 n q _ _ = _
  unfold tx1
  simp only [h]
  rfl
theorem fl_29 {n : Nat} (hn : 1 ≤ n) (hn2 : n ≤ 9) {u : Nat} {q : TN} (h : kN q = 29) (iA : ∀ J B, Fl J B → Sep B → Fl (tkL n u (kdA q) ++ J) (txN n u (kdA q) ++ B) ∧ ¬ sB (hdT (txN n u (kdA q) ++ B)) = 61) (iB : ∀ J B, Fl J B → Sep B → Fl (tkL n u (kdB q) ++ J) (txN n u (kdB q) ++ B) ∧ ¬ sB (hdT (txN n u (kdB q) ++ B)) = 61) : ∀ J B, Fl J B → Sep B → Fl (tkL n (u + 1) q ++ J) (txN n (u + 1) q ++ B) ∧ ¬ sB (hdT (txN n (u + 1) q ++ B)) = 61 := by
  intro J B hF hs
  rw [tl_29 h, tt_29 h, ct_38, ct_39]
  simp only [List.append_assoc, List.cons_append, List.nil_append]
  exact ⟨(Fl.wd (w := [110, 111, 116]) (k := 19) (by decide +kernel) (sep_c (c := 91) (by decide)) (Fl.sy (c := 91) (k := 26) (by decide) (iA _ _ (Fl.sy (c := 93) (k := 27) (by decide) hF) (sep_c (c := 93) (by decide))).1)), (eq_c (c := 110) (by decide))⟩
theorem tl_30 {n u : Nat} {q : TN} (h : kN q = 30) : tkL n (u + 1) q = [(26, 0)] ++ (tkL n u (kdA q) ++ ([(27, 0), (20, 0), (26, 0)] ++ (tkL n u (kdB q) ++ [(27, 0)]))) := by
  show tl1 n q _ _ = _
  unfold tl1
  simp only [h]
  rfl
theorem tt_30 {n u : Nat} {q : TN} (h : kN q = 30) : txN n (u + 1) q = (((((((([] : List Nat) ++ cTx 40) ++ txN n u (kdA q)) ++ cTx 39) ++ cTx 41) ++ cTx 40) ++ txN n u (kdB q)) ++ cTx 39) := by
  show tx1 n q _ _ = _
  unfold tx1
  simp only [h]
  rfl
theorem fl_30 {n : Nat} (hn : 1 ≤ n) (hn2 : n ≤ 9) {u : Nat} {q : TN} (h : kN q = 30) (iA : ∀ J B, Fl J B → Sep B → Fl (tkL n u (kdA q) ++ J) (txN n u (kdA q) ++ B) ∧ ¬ sB (hdT (txN n u (kdA q) ++ B)) = 61) (iB : ∀ J B, Fl J B → Sep B → Fl (tkL n u (kdB q) ++ J) (txN n u (kdB q) ++ B) ∧ ¬ sB (hdT (txN n u (kdB q) ++ B)) = 61) : ∀ J B, Fl J B → Sep B → Fl (tkL n (u + 1) q ++ J) (txN n (u + 1) q ++ B) ∧ ¬ sB (hdT (txN n (u + 1) q ++ B)) = 61 := by
  intro J B hF hs
  rw [tl_30 h, tt_30 h, ct_39, ct_40, ct_41]
  simp only [List.append_assoc, List.cons_append, List.nil_append]
  exact ⟨(Fl.sy (c := 91) (k := 26) (by decide) (iA _ _ (Fl.sy (c := 93) (k := 27) (by decide) (Fl.wd (w := [97, 110, 100]) (k := 20) (by decide +kernel) (sep_c (c := 91) (by decide)) (Fl.sy (c := 91) (k := 26) (by decide) (iB _ _ (Fl.sy (c := 93) (k := 27) (by decide) hF) (sep_c (c := 93) (by decide))).1))) (sep_c (c := 93) (by decide))).1), (eq_c (c := 91) (by decide))⟩
theorem tl_31 {n u : Nat} {q : TN} (h : kN q = 31) : tkL n (u + 1) q = [(26, 0)] ++ (tkL n u (kdA q) ++ ([(27, 0), (21, 0), (26, 0)] ++ (tkL n u (kdB q) ++ [(27, 0)]))) := by
  show tl1 n q _ _ = _
  unfold tl1
  simp only [h]
  rfl
theorem tt_31 {n u : Nat} {q : TN} (h : kN q = 31) : txN n (u + 1) q = (((((((([] : List Nat) ++ cTx 40) ++ txN n u (kdA q)) ++ cTx 39) ++ cTx 42) ++ cTx 40) ++ txN n u (kdB q)) ++ cTx 39) := by
  show tx1 n q _ _ = _
  unfold tx1
  simp only [h]
  rfl
theorem fl_31 {n : Nat} (hn : 1 ≤ n) (hn2 : n ≤ 9) {u : Nat} {q : TN} (h : kN q = 31) (iA : ∀ J B, Fl J B → Sep B → Fl (tkL n u (kdA q) ++ J) (txN n u (kdA q) ++ B) ∧ ¬ sB (hdT (txN n u (kdA q) ++ B)) = 61) (iB : ∀ J B, Fl J B → Sep B → Fl (tkL n u (kdB q) ++ J) (txN n u (kdB q) ++ B) ∧ ¬ sB (hdT (txN n u (kdB q) ++ B)) = 61) : ∀ J B, Fl J B → Sep B → Fl (tkL n (u + 1) q ++ J) (txN n (u + 1) q ++ B) ∧ ¬ sB (hdT (txN n (u + 1) q ++ B)) = 61 := by
  intro J B hF hs
  rw [tl_31 h, tt_31 h, ct_39, ct_40, ct_42]
  simp only [List.append_assoc, List.cons_append, List.nil_append]
  exact ⟨(Fl.sy (c := 91) (k := 26) (by decide) (iA _ _ (Fl.sy (c := 93) (k := 27) (by decide) (Fl.wd (w := [111, 114]) (k := 21) (by decide +kernel) (sep_c (c := 91) (by decide)) (Fl.sy (c := 91) (k := 26) (by decide) (iB _ _ (Fl.sy (c := 93) (k := 27) (by decide) hF) (sep_c (c := 93) (by decide))).1))) (sep_c (c := 93) (by decide))).1), (eq_c (c := 91) (by decide))⟩
/-- a tree's text is its tokens -/
theorem fl_tree {n : Nat} (hn : 1 ≤ n) (hn2 : n ≤ 9) : ∀ (u : Nat) (q : TN), WfT u q → ∀ J B, Fl J B → Sep B → Fl (tkL n u q ++ J) (txN n u q ++ B) ∧ ¬ sB (hdT (txN n u q ++ B)) = 61
  | 0, _, hw => (wf_0 hw).elim
  | u + 1, q, hw => by
    rcases kN_all q with h | h | h | h | h | h | h | h | h | h | h | h | h | h | h | h | h | h | h | h | h | h | h
    · exact fl_0 hn hn2 h
    · exact fl_1 hn hn2 h
    · exact fl_2 hn hn2 h
    · exact fl_3 hn hn2 h
    · exact fl_4 hn hn2 h
    · exact fl_5 hn hn2 h
    · exact fl_6 hn hn2 h (fl_tree hn hn2 u _ (wf_A hw (by rw [h]; decide))) (fl_tree hn hn2 u _ (wf_B hw (by rw [h]; decide)))
    · exact fl_7 hn hn2 h (fl_tree hn hn2 u _ (wf_A hw (by rw [h]; decide))) (fl_tree hn hn2 u _ (wf_B hw (by rw [h]; decide)))
    · exact fl_8 hn hn2 h (fl_tree hn hn2 u _ (wf_A hw (by rw [h]; decide))) (fl_tree hn hn2 u _ (wf_B hw (by rw [h]; decide)))
    · exact fl_9 hn hn2 h (fl_tree hn hn2 u _ (wf_A hw (by rw [h]; decide))) (fl_tree hn hn2 u _ (wf_B hw (by rw [h]; decide)))
    · exact fl_10 hn hn2 h (fl_tree hn hn2 u _ (wf_A hw (by rw [h]; decide))) (fl_tree hn hn2 u _ (wf_B hw (by rw [h]; decide)))
    · exact fl_11 hn hn2 h (fl_tree hn hn2 u _ (wf_A hw (by rw [h]; decide))) (fl_tree hn hn2 u _ (wf_B hw (by rw [h]; decide)))
    · exact fl_12 hn hn2 h (fl_tree hn hn2 u _ (wf_A hw (by rw [h]; decide))) (fl_tree hn hn2 u _ (wf_B hw (by rw [h]; decide)))
    · exact fl_20 hn hn2 h (fl_tree hn hn2 u _ (wf_A hw (by rw [h]; decide))) (fl_tree hn hn2 u _ (wf_B hw (by rw [h]; decide)))
    · exact fl_21 hn hn2 h (fl_tree hn hn2 u _ (wf_A hw (by rw [h]; decide))) (fl_tree hn hn2 u _ (wf_B hw (by rw [h]; decide)))
    · exact fl_22 hn hn2 h (fl_tree hn hn2 u _ (wf_A hw (by rw [h]; decide))) (fl_tree hn hn2 u _ (wf_B hw (by rw [h]; decide)))
    · exact fl_23 hn hn2 h (fl_tree hn hn2 u _ (wf_A hw (by rw [h]; decide))) (fl_tree hn hn2 u _ (wf_B hw (by rw [h]; decide)))
    · exact fl_24 hn hn2 h (fl_tree hn hn2 u _ (wf_A hw (by rw [h]; decide))) (fl_tree hn hn2 u _ (wf_B hw (by rw [h]; decide)))
    · exact fl_25 hn hn2 h
    · exact fl_26 hn hn2 h
    · exact fl_29 hn hn2 h (fl_tree hn hn2 u _ (wf_A hw (by rw [h]; decide))) (fl_tree hn hn2 u _ (wf_B hw (by rw [h]; decide)))
    · exact fl_30 hn hn2 h (fl_tree hn hn2 u _ (wf_A hw (by rw [h]; decide))) (fl_tree hn hn2 u _ (wf_B hw (by rw [h]; decide)))
    · exact fl_31 hn hn2 h (fl_tree hn hn2 u _ (wf_A hw (by rw [h]; decide))) (fl_tree hn hn2 u _ (wf_B hw (by rw [h]; decide)))
