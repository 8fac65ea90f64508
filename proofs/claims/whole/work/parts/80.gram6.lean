theorem hnF_ex {nm : Nat → Int64} {x : Int64} {m : Nat} (h : hnF nm x m ≠ -1) : ∃ k, fstN (fun i => nm i == x) m = some k ∧ hnF nm x m = nI k := by
  unfold hnF at h ⊢
  cases e : fstN (fun i => nm i == x) m with
  | some k => exact ⟨k, rfl, rfl⟩
  | none => rw [e] at h; exact absurd rfl h
theorem hnF_lt {nm : Nat → Int64} {x : Int64} {m : Nat} (h : hnF nm x m ≠ -1) : ∃ k, k < m ∧ hnF nm x m = nI k := by
  obtain ⟨k, h1, h2⟩ := hnF_ex h
  exact ⟨k, (fstN_spec h1).1, h2⟩
theorem fstN_cong {p q : Nat → Bool} : ∀ {m : Nat}, (∀ i, i < m → p i = q i) → fstN p m = fstN q m
  | 0, _ => rfl
  | k + 1, h => by rw [fstN, fstN, fstN_cong (fun i hi => h i (by omega)), h k (by omega)]
theorem hnF_cong {nm nm2 : Nat → Int64} {x : Int64} {m : Nat} (h : ∀ i, i < m → nm i = nm2 i) : hnF nm x m = hnF nm2 x m := by
  unfold hnF
  rw [fstN_cong (q := fun i => nm2 i == x) (fun i hi => by rw [h i hi])]
theorem tkF_cong {bP bP2 : Nat → Int32} {x : Int64} {m : Nat} (h : ∀ i, i < m → bP i = bP2 i) : tkF bP x m = tkF bP2 x m := by
  unfold tkF
  rw [fstN_cong (q := fun i => (bP2 i).toInt64 == x) (fun i hi => by rw [h i hi])]
theorem hnF_app {nm : Nat → Int64} {x v : Int64} {m : Nat} (h : hnF nm x m ≠ -1) : hnF (vp_updL nm m v) x (m + 1) = hnF nm x m := by
  obtain ⟨k, h1, h2⟩ := hnF_ex h
  have e : fstN (fun i => vp_updL nm m v i == x) m = some k := by
    rw [← h1]
    exact fstN_cong (fun i hi => by rw [show vp_updL nm m v i = nm i by simp [vp_updL]; omega])
  rw [h2]
  unfold hnF
  rw [fstN, e]
theorem RowM.grow {va nm nm2 : Nat → Int64} {m m2 : Nat} {tq : Nat → Nat} {me : Nat → Int32} {i2 : Nat} {od wi al o g j : Int32} (h : RowM va nm m tq me i2 od wi al o g j) (hg : ∀ k, k < i2 → me k = 6 → hnF nm2 (va k) m2 = hnF nm (va k) m) : RowM va nm2 m2 tq me i2 od wi al o g j := by
  obtain ⟨c, h1, h2, h3, h4, h5, h6⟩ := h
  refine ⟨c, h1, h2, h3, h4, fun q => ?_, fun q => ?_⟩
  · obtain ⟨k, a, b, t, d, f⟩ := h5 q
    exact ⟨k, a, b, t, d, by rw [hg k a b]; exact f⟩
  · obtain ⟨k, a, b, t, d, f⟩ := h6 q
    exact ⟨k, a, b, t, d, by rw [hg k a b]; exact f⟩
/-- the marks' run: error, place, houses' count, names, places, heights, laws' count, whom, who -/
abbrev P2 : Type := Int32 × Int32 × Nat × (Nat → Int64) × (Nat → Int32) × (Nat → Int32) × Nat × (Nat → Int32) × (Nat → Int32)
def p2S (fr : Nat → Int32) (va : Nat → Int64) (me : Nat → Int32) (k : Nat) : P2 → P2
  | (e, a, m, nm, bP, bH, u, wh, wo) =>
    if e = 0 then
      if me k = 1 then (if hnF nm (va k) m = -1 then (if m < 12 then (e, a, m + 1, vp_updL nm m (va k), bP, bH, u, wh, wo) else (4, fr k, m, nm, bP, bH, u, wh, wo)) else (2, fr k, m, nm, bP, bH, u, wh, wo))
      else if me k = 2 then (if 99 < va k then (5, fr k, m, nm, bP, bH, u, wh, wo) else if tkF bP (va k) (m - 1) = true then (5, fr k, m, nm, bP, bH, u, wh, wo) else (e, a, m, nm, upd bP (m - 1) (va k).toInt32, bH, u, wh, wo))
      else if me k = 3 then (if va k ≤ 30 then (e, a, m, nm, bP, upd bH (m - 1) (va k).toInt32, u, wh, wo) else (5, fr k, m, nm, bP, bH, u, wh, wo))
      else if me k = 4 then (if u < 16 then (e, a, m, nm, bP, bH, u + 1, wh, wo) else (4, fr k, m, nm, bP, bH, u, wh, wo))
      else if me k = 5 then (if hnF nm (va k) m = -1 then (3, fr k, m, nm, bP, bH, u, wh, wo) else (e, a, m, nm, bP, bH, u, upd wh (u - 1) (hnF nm (va k) m), upd wo k (hnF nm (va k) m)))
      else if me k = 6 then (if hnF nm (va k) m = -1 then (3, fr k, m, nm, bP, bH, u, wh, wo) else (e, a, m, nm, bP, bH, u, wh, upd wo k (hnF nm (va k) m)))
      else (e, a, m, nm, bP, bH, u, wh, wo)
    else (e, a, m, nm, bP, bH, u, wh, wo)
def p2N (fr : Nat → Int32) (va : Nat → Int64) (me : Nat → Int32) (i : Nat) (st : P2) : Nat → P2
  | 0 => st
  | n + 1 => p2S fr va me (i + n) (p2N fr va me i st n)
theorem p2N_add {fr : Nat → Int32} {va : Nat → Int64} {me : Nat → Int32} {i : Nat} {st : P2} {a : Nat} : ∀ b, p2N fr va me i st (a + b) = p2N fr va me (i + a) (p2N fr va me i st a) b
  | 0 => rfl
  | b + 1 => by rw [show a + (b + 1) = (a + b) + 1 by omega, p2N, p2N, p2N_add b, Nat.add_assoc]
theorem p2S_cong {fr : Nat → Int32} {va : Nat → Int64} {me me2 : Nat → Int32} {k : Nat} {st : P2} (h : me2 k = me k) : p2S fr va me2 k st = p2S fr va me k st := by
  obtain ⟨e, a, m, nm, bP, bH, u, wh, wo⟩ := st
  simp only [p2S, h]
theorem p2N_cong {fr : Nat → Int32} {va : Nat → Int64} {me me2 : Nat → Int32} {i : Nat} {st : P2} : ∀ {n : Nat}, (∀ k, i ≤ k → k < i + n → me2 k = me k) → p2N fr va me2 i st n = p2N fr va me i st n
  | 0, _ => rfl
  | n + 1, h => by rw [p2N, p2N, p2N_cong (fun k a b => h k a (by omega)), p2S_cong (h (i + n) (by omega) (by omega))]
theorem p2S_frozen {fr : Nat → Int32} {va : Nat → Int64} {me : Nat → Int32} {k : Nat} {e a : Int32} {r : Nat × (Nat → Int64) × (Nat → Int32) × (Nat → Int32) × Nat × (Nat → Int32) × (Nat → Int32)} (h : e ≠ 0) : p2S fr va me k (e, a, r) = (e, a, r) := by
  obtain ⟨m, nm, bP, bH, u, wh, wo⟩ := r
  rw [p2S, if_neg h]
theorem p2N_frozen {fr : Nat → Int32} {va : Nat → Int64} {me : Nat → Int32} {i : Nat} {e a : Int32} {r : Nat × (Nat → Int64) × (Nat → Int32) × (Nat → Int32) × Nat × (Nat → Int32) × (Nat → Int32)} (h : e ≠ 0) : ∀ n, p2N fr va me i (e, a, r) n = (e, a, r)
  | 0 => rfl
  | n + 1 => by rw [p2N, p2N_frozen h n, p2S_frozen h]
theorem p2S_0 {fr : Nat → Int32} {va : Nat → Int64} {me : Nat → Int32} {k : Nat} {st : P2} (h : me k = 0) : p2S fr va me k st = st := by
  obtain ⟨e, a, m, nm, bP, bH, u, wh, wo⟩ := st
  simp [p2S, h]
/-- over names marked 6 -/
theorem p2N_tl {fr : Nat → Int32} {va nm : Nat → Int64} {me : Nat → Int32} {i m u : Nat} {e a : Int32} {bP bH wh wo : Nat → Int32} : ∀ {n : Nat}, (∀ k, i ≤ k → k < i + n → me k = 0 ∨ me k = 6) →
    ∃ r e2 a2, p2N fr va me i (e, a, m, nm, bP, bH, u, wh, wo) n = (e2, a2, r) ∧ (e2, a2) = tlN fr va nm m me i (e, a) n ∧ (e2 = 0 → e = 0 ∧ ∃ wo2, r = (m, nm, bP, bH, u, wh, wo2) ∧ (∀ k, k < i ∨ i + n ≤ k → wo2 k = wo k) ∧ ∀ k, i ≤ k → k < i + n → me k = 6 → wo2 k = hnF nm (va k) m ∧ hnF nm (va k) m ≠ -1)
  | 0, _ => ⟨_, e, a, rfl, rfl, fun h => ⟨h, wo, rfl, fun _ _ => rfl, fun k a b => by omega⟩⟩
  | n + 1, h => by
    obtain ⟨r, e2, a2, h1, h2, h3⟩ := p2N_tl (fr := fr) (va := va) (nm := nm) (me := me) (i := i) (m := m) (u := u) (e := e) (a := a) (bP := bP) (bH := bH) (wh := wh) (wo := wo) (n := n) (fun k a b => h k a (by omega))
    by_cases z : e2 = 0
    · obtain ⟨he, wo2, hr, hf, hw⟩ := h3 z
      subst z
      rcases h (i + n) (by omega) (by omega) with q | q
      · refine ⟨r, 0, a2, by rw [p2N, h1, p2S_0 q], ?_, fun _ => ⟨he, wo2, hr, fun k hk => hf k (by omega), fun k x y w => ?_⟩⟩
        · rw [tlN, ← h2, tlS, if_neg]
          rintro ⟨x, -⟩
          rw [q] at x
          exact absurd x (by decide)
        · rcases Nat.lt_or_ge k (i + n) with c | c
          · exact hw k x c w
          · rw [show k = i + n by omega, q] at w; exact absurd w (by decide)
      · by_cases hn : hnF nm (va (i + n)) m = -1
        · refine ⟨r, 3, fr (i + n), ?_, ?_, fun z => absurd z (by decide)⟩
          · rw [p2N, h1, hr, p2S]; simp [q, hn]
          · rw [tlN, ← h2, tlS, if_pos ⟨q, hn⟩]; rfl
        · refine ⟨(m, nm, bP, bH, u, wh, upd wo2 (i + n) (hnF nm (va (i + n)) m)), 0, a2, ?_, ?_, fun _ => ⟨he, _, rfl, fun k hk => ?_, fun k x y w => ?_⟩⟩
          · rw [p2N, h1, hr, p2S]; simp [q, hn]
          · rw [tlN, ← h2, tlS, if_neg (fun z => hn z.2)]
          · rw [upd_n (by omega)]; exact hf k (by omega)
          · rcases Nat.lt_or_ge k (i + n) with c | c
            · rw [upd_n (by omega)]; exact hw k x c w
            · have : k = i + n := by omega
              subst this
              exact ⟨upd_s, hn⟩
    · refine ⟨r, e2, a2, by rw [p2N, h1, p2S_frozen z], ?_, fun y => absurd y z⟩
      rw [tlN, ← h2, tlS]
      split
      · simp [z]
      · rfl
/-- where two are of one mind between two lines: the model's reading and marks, the class's book -/
def BookI (tq : Nat → Nat) (va : Nat → Int64) (st : P2) (i u s : Nat) (me od wi al dz bg en : Nat → Int32) (e a : Int32) (o g j : Nat → Int32) (m : Nat) (nm : Nat → Int64) (bP bH : Nat → Int32) (uc : Nat) (l0 l1 l2 l3 l4 l5 : Nat → Int32) : Prop :=
  uc = min u 16 ∧ m ≤ 12 ∧ (∃ r, st = (e, a, r)) ∧ (e = 0 → u ≤ 16 ∧ ∃ nm9 bP9 bH9 wh9 wo, st = (e, a, m, nm9, bP9, bH9, u, wh9, wo) ∧ ((∀ k, k < m → nm9 k = nm k ∧ bP9 k = bP k ∧ bH9 k = bH k) ∧ ∀ k, k < u → wh9 k = l1 k) ∧
    (∀ r, r < s → RowM va nm m tq me i (od r) (wi r) (al r) (o r) (g r) (j r)) ∧
    (∀ k, k < u → LawOk o dz bg en s k (l0 k) (l2 k) (l3 k) (l4 k) (l5 k) ∧ ∃ h, h < m ∧ l1 k = nI h) ∧
    (∀ k, k < i → me k = 6 → wo k = hnF nm (va k) m ∧ hnF nm (va k) m ≠ -1))
def tlE (er wh : Int32) (p : Int32 × Int32) : Int32 × Int32 := (if p.1 = 0 then er else p.1, if p.1 = 0 then wh else p.2)
theorem tlE_f {er wh e a : Int32} (h : e ≠ 0) : tlE er wh (e, a) = (e, a) := by rw [tlE, if_neg h, if_neg h]
def hA (fr : Nat → Int32) (va nm : Nat → Int64) (m i : Nat) (p : Int32 × Int32) : Int32 × Int32 := if hnF nm (va i) m = -1 then (if m < 12 then p else tlE 4 (fr i) p) else tlE 2 (fr i) p
def hB (fr : Nat → Int32) (va : Nat → Int64) (bP : Nat → Int32) (m i : Nat) (p : Int32 × Int32) : Int32 × Int32 := if 99 < va i then tlE 5 (fr i) p else if tkF bP (va i) m = true then tlE 5 (fr i) p else p
def hD (fr : Nat → Int32) (va : Nat → Int64) (i : Nat) (p : Int32 × Int32) : Int32 × Int32 := if va i ≤ 30 then p else tlE 5 (fr i) p
section
variable {tk : Nat → Nat} {sf : Nat → Int32} {vf nm : Nat → Int64} {bP bH : Nat → Int32} {m i u : Nat} {q : PS} {e a : Int32} {r : RT}
theorem val_ok {k : Nat} (h : tk i = k) : valT tk vf k (i, false, e, a, r) = vf i := by
  rw [valT, if_pos (show nw tk i false = k from h)]
theorem houA_ok (h : tk i = 39) : houA tk sf vf nm m (i, false, e, a, r) = (i + 1, false, (hA sf vf nm m i (e, a)).1, (hA sf vf nm m i (e, a)).2, r) := by
  rw [houA, val_ok h, takeC_ok h, hA]
  split
  · split <;> rfl
  · rfl
theorem houB_ok (h : tk i = 40) : houB tk sf vf bP m (i, false, e, a, r) = (i + 1, false, (hB sf vf bP m i (e, a)).1, (hB sf vf bP m i (e, a)).2, r) := by
  rw [houB, val_ok h, takeC_ok h, hB]
  split
  · rfl
  · split <;> rfl
theorem houD_ok (h : tk i = 40) : houD tk sf vf (i, false, e, a, r) = (i + 1, false, (hD sf vf i (e, a)).1, (hD sf vf i (e, a)).2, r) := by
  rw [houD, val_ok h, takeC_ok h, hD]
  split <;> rfl
theorem hou1 : (houC tk sf vf nm m bP q).1 = houD tk sf vf (takeC tk sf 2 (houB tk sf vf bP m (takeC tk sf 1 (houA tk sf vf nm m (takeC tk sf 0 q))))) := by simp only [houC, houH, houF, houG]
theorem hou2 : (houC tk sf vf nm m bP q).2.1 = valT tk vf 39 (takeC tk sf 0 q) := by simp only [houC, houH, houF, houG]
theorem hou3 : (houC tk sf vf nm m bP q).2.2.1 = valT tk vf 40 (takeC tk sf 1 (houA tk sf vf nm m (takeC tk sf 0 q))) := by simp only [houC, houH, houF, houG]
theorem hou4 : (houC tk sf vf nm m bP q).2.2.2 = valT tk vf 40 (takeC tk sf 2 (houB tk sf vf bP m (takeC tk sf 1 (houA tk sf vf nm m (takeC tk sf 0 q))))) := by simp only [houC, houH, houF, houG]
theorem fro_houA : Fro (houA tk sf vf nm m) := fun i a r => by
  rw [houA]
  obtain ⟨r1, e1⟩ := fro_take (tk := tk) (sf := sf) 39 (by decide) i a r
  rw [e1]
  split
  · split <;> exact ⟨r1, rfl⟩
  · exact ⟨r1, rfl⟩
theorem fro_houB : Fro (houB tk sf vf bP m) := fun i a r => by
  rw [houB]
  obtain ⟨r1, e1⟩ := fro_take (tk := tk) (sf := sf) 40 (by decide) i a r
  rw [e1]
  split
  · exact ⟨r1, rfl⟩
  · split <;> exact ⟨r1, rfl⟩
theorem fro_houD : Fro (houD tk sf vf) := fun i a r => by
  rw [houD]
  obtain ⟨r1, e1⟩ := fro_take (tk := tk) (sf := sf) 40 (by decide) i a r
  rw [e1]
  split <;> exact ⟨r1, rfl⟩
theorem Bk.noA (h : tk i ≠ 39) : Bk (houA tk sf vf nm m (i, false, e, a, r)) i (sf i) := by
  rw [houA, takeC_no h]
  split
  · split <;> exact ⟨r, rfl⟩
  · exact ⟨r, rfl⟩
theorem Bk.noB (h : tk i ≠ 40) : Bk (houB tk sf vf bP m (i, false, e, a, r)) i (sf i) := by
  rw [houB, takeC_no h]
  split
  · exact ⟨r, rfl⟩
  · split <;> exact ⟨r, rfl⟩
theorem Bk.noD (h : tk i ≠ 40) : Bk (houD tk sf vf (i, false, e, a, r)) i (sf i) := by
  rw [houD, takeC_no h]
  split <;> exact ⟨r, rfl⟩
theorem Bk.lawno (h : tk i ≠ 3) : Bk (lawC tk sf vf nm m u (i, false, e, a, r)).1 i (sf i) := by
  rw [law1]
  refine Bk.lawW (Bk.ord ?_)
  rw [lawT_df, takeC_no h]
  split <;> exact ⟨r, rfl⟩
theorem lineC_h {s : Nat} {o g j l0 l1 l2 l3 l4 l5 : Nat → Int32} (t0 : tk i = 0) (t1 : tk (i + 1) = 39) (t2 : tk (i + 1 + 1) = 1) (t3 : tk (i + 1 + 1 + 1) = 40) (t4 : tk (i + 1 + 1 + 1 + 1) = 2) (t5 : tk (i + 1 + 1 + 1 + 1 + 1) = 40) (t6 : tk (i + 1 + 1 + 1 + 1 + 1 + 1) = 28) :
    lineC tk sf vf ((i, false, e, a, s, o, g, j), m, nm, bP, bH, u, l0, l1, l2, l3, l4, l5) = ((i + 1 + 1 + 1 + 1 + 1 + 1 + 1, false, (hD sf vf (i + 1 + 1 + 1 + 1 + 1) (hB sf vf bP m (i + 1 + 1 + 1) (hA sf vf nm m (i + 1) (e, a)))).1, (hD sf vf (i + 1 + 1 + 1 + 1 + 1) (hB sf vf bP m (i + 1 + 1 + 1) (hA sf vf nm m (i + 1) (e, a)))).2, s, o, g, j), inc m 12, updCL nm m 12 (vf (i + 1)), updC bP m 12 (vf (i + 1 + 1 + 1)).toInt32, updC bH m 12 (vf (i + 1 + 1 + 1 + 1 + 1)).toInt32, u, l0, l1, l2, l3, l4, l5) := by
  rw [lineC, if_pos (now_eq t0), hou1, hou2, hou3, hou4, takeC_ok t0, val_ok t1, houA_ok t1, takeC_ok t2, val_ok t3, houB_ok t3, takeC_ok t4, val_ok t5, houD_ok t5, takeC_ok t6]
end
section
variable {Lt : Nat} {tq : Nat → Nat} {fr : Nat → Int32} {va : Nat → Int64} {st : P2} {i u s : Nat} {me od wi al dz bg en : Nat → Int32} {e a : Int32} {o g j : Nat → Int32} {m : Nat} {nm : Nat → Int64} {bP bH : Nat → Int32} {uc : Nat} {l0 l1 l2 l3 l4 l5 : Nat → Int32}
theorem hA_f {k : Nat} (h : e ≠ 0) : hA fr va nm m k (e, a) = (e, a) := by
  rw [hA, tlE_f h, tlE_f h]
  split
  · split <;> rfl
  · rfl
theorem hB_f {k : Nat} (h : e ≠ 0) : hB fr va bP m k (e, a) = (e, a) := by
  rw [hB, tlE_f h]
  split
  · rfl
  · split <;> rfl
theorem hD_f {k : Nat} (h : e ≠ 0) : hD fr va k (e, a) = (e, a) := by
  rw [hD, tlE_f h]
  split <;> rfl
def meH (me : Nat → Int32) (i : Nat) : Nat → Int32 := upd (upd (upd me (i + 1) 1) (i + 1 + 1 + 1) 2) (i + 1 + 1 + 1 + 1 + 1) 3
theorem BookI.house (h : BookI tq va st i u s me od wi al dz bg en e a o g j m nm bP bH uc l0 l1 l2 l3 l4 l5) (hl : i + 6 < Lt) (hme : ∀ k, i ≤ k → k ≤ Lt → me k = 0) :
    ∃ m2 nm2 bP2 bH2, inc m 12 = m2 ∧ updCL nm m 12 (va (i + 1)) = nm2 ∧ updC bP m 12 (va (i + 1 + 1 + 1)).toInt32 = bP2 ∧ updC bH m 12 (va (i + 1 + 1 + 1 + 1 + 1)).toInt32 = bH2 ∧
    BookI tq va (p2N fr va (meH me i) i st 7) (i + 1 + 1 + 1 + 1 + 1 + 1 + 1) u s (meH me i) od wi al dz bg en (hD fr va (i + 1 + 1 + 1 + 1 + 1) (hB fr va bP m (i + 1 + 1 + 1) (hA fr va nm m (i + 1) (e, a)))).1 (hD fr va (i + 1 + 1 + 1 + 1 + 1) (hB fr va bP m (i + 1 + 1 + 1) (hA fr va nm m (i + 1) (e, a)))).2 o g j m2 nm2 bP2 bH2 uc l0 l1 l2 l3 l4 l5 := by
  refine ⟨_, _, _, _, rfl, rfl, rfl, rfl, ?_⟩
  obtain ⟨hu, hm, ⟨r0, hr0⟩, hg⟩ := h
  have hz : ∀ k, k ≠ i + 1 → k ≠ i + 1 + 1 + 1 → k ≠ i + 1 + 1 + 1 + 1 + 1 → meH me i k = me k := fun k a b c => by rw [meH, upd_n c, upd_n b, upd_n a]
  have m0 : meH me i (i + 0) = 0 := (hz _ (by omega) (by omega) (by omega)).trans (hme _ (by omega) (by omega))
  have m1 : meH me i (i + 1) = 1 := by rw [meH, upd_n (by omega), upd_n (by omega), upd_s]
  have m2 : meH me i (i + 2) = 0 := (hz _ (by omega) (by omega) (by omega)).trans (hme _ (by omega) (by omega))
  have m3 : meH me i (i + 3) = 2 := by rw [meH, upd_n (by omega), upd_s]
  have m4 : meH me i (i + 4) = 0 := (hz _ (by omega) (by omega) (by omega)).trans (hme _ (by omega) (by omega))
  have m5 : meH me i (i + 5) = 3 := by rw [meH, upd_s]
  have m6 : meH me i (i + 6) = 0 := (hz _ (by omega) (by omega) (by omega)).trans (hme _ (by omega) (by omega))
  have hst : p2N fr va (meH me i) i st 7 = p2S fr va (meH me i) (i + 5) (p2S fr va (meH me i) (i + 3) (p2S fr va (meH me i) (i + 1) st)) := by
    rw [p2N, p2N, p2N, p2N, p2N, p2N, p2N, p2N, p2S_0 m0, p2S_0 m2, p2S_0 m4, p2S_0 m6]
  have hmi : inc m 12 ≤ 12 := inc_le12 hm
  have bad : ∀ (e2 a2 : Int32), e2 ≠ 0 → ∀ r, p2N fr va (meH me i) i st 7 = (e2, a2, r) → ∀ (e3 a3 : Int32), e3 = e2 → a3 = a2 → BookI tq va (p2N fr va (meH me i) i st 7) (i + 1 + 1 + 1 + 1 + 1 + 1 + 1) u s (meH me i) od wi al dz bg en e3 a3 o g j (inc m 12) (updCL nm m 12 (va (i + 1))) (updC bP m 12 (va (i + 1 + 1 + 1)).toInt32) (updC bH m 12 (va (i + 1 + 1 + 1 + 1 + 1)).toInt32) uc l0 l1 l2 l3 l4 l5 := by
    intro e2 a2 ne r hr e3 a3 h3 h4
    subst h3 h4
    exact ⟨hu, hmi, ⟨r, hr⟩, fun z => absurd z ne⟩
  by_cases ze : e = 0
  · obtain ⟨hu16, nm9, bP9, bH9, wh9, wo, hs, ⟨hag, hwh⟩, hrow, hlaw, hwo⟩ := hg ze
    subst ze
    have hcn : ∀ x, hnF nm9 x m = hnF nm x m := fun x => hnF_cong (fun k hk => (hag k hk).1)
    have hct : ∀ x, tkF bP9 x m = tkF bP x m := fun x => tkF_cong (fun k hk => (hag k hk).2.1)
    by_cases c1 : hnF nm (va (i + 1)) m = -1
    · by_cases c2 : m < 12
      · have s1 : p2S fr va (meH me i) (i + 1) st = (0, a, m + 1, vp_updL nm9 m (va (i + 1)), bP9, bH9, u, wh9, wo) := by
          rw [hs, p2S, if_pos rfl, m1, if_pos rfl, hcn, if_pos c1, if_pos c2]
        have a1 : hA fr va nm m (i + 1) (0, a) = (0, a) := by rw [hA, if_pos c1, if_pos c2]
        rw [a1]
        have bq : ∀ x : Int32, p2S fr va (meH me i) (i + 3) (0, a, m + 1, vp_updL nm9 m (va (i + 1)), bP9, bH9, u, wh9, wo) = if 99 < va (i + 3) then (5, fr (i + 3), m + 1, vp_updL nm9 m (va (i + 1)), bP9, bH9, u, wh9, wo) else if tkF bP (va (i + 3)) m = true then (5, fr (i + 3), m + 1, vp_updL nm9 m (va (i + 1)), bP9, bH9, u, wh9, wo) else (0, a, m + 1, vp_updL nm9 m (va (i + 1)), upd bP9 m (va (i + 3)).toInt32, bH9, u, wh9, wo) := fun _ => by
          rw [p2S, if_pos rfl, m3, if_neg (by decide), if_pos rfl, ← hct]; rfl
        by_cases c3 : 99 < va (i + 3)
        · refine bad 5 (fr (i + 3)) (by decide) (m + 1, vp_updL nm9 m (va (i + 1)), bP9, bH9, u, wh9, wo) (by rw [hst, s1, bq 0, if_pos c3, p2S_frozen (by decide)]) _ _ ?_ ?_
          · rw [hB, if_pos c3, hD]; split <;> rfl
          · rw [hB, if_pos c3, hD]; split <;> rfl
        · by_cases c4 : tkF bP (va (i + 3)) m = true
          · refine bad 5 (fr (i + 3)) (by decide) (m + 1, vp_updL nm9 m (va (i + 1)), bP9, bH9, u, wh9, wo) (by rw [hst, s1, bq 0, if_neg c3, if_pos c4, p2S_frozen (by decide)]) _ _ ?_ ?_
            · rw [hB, if_neg c3, if_pos c4, hD]; split <;> rfl
            · rw [hB, if_neg c3, if_pos c4, hD]; split <;> rfl
          · have b1 : hB fr va bP m (i + 1 + 1 + 1) (0, a) = (0, a) := by rw [hB, if_neg c3, if_neg c4]
            rw [b1]
            have s3 : p2S fr va (meH me i) (i + 3) (0, a, m + 1, vp_updL nm9 m (va (i + 1)), bP9, bH9, u, wh9, wo) = (0, a, m + 1, vp_updL nm9 m (va (i + 1)), upd bP9 m (va (i + 3)).toInt32, bH9, u, wh9, wo) := by rw [bq 0, if_neg c3, if_neg c4]
            by_cases c5 : va (i + 5) ≤ 30
            · have d1 : hD fr va (i + 1 + 1 + 1 + 1 + 1) (0, a) = (0, a) := by rw [hD, if_pos c5]
              rw [d1]
              have s5 : p2N fr va (meH me i) i st 7 = (0, a, m + 1, vp_updL nm9 m (va (i + 1)), upd bP9 m (va (i + 3)).toInt32, upd bH9 m (va (i + 5)).toInt32, u, wh9, wo) := by
                rw [hst, s1, s3, p2S, if_pos rfl, m5, if_neg (by decide), if_neg (by decide), if_pos rfl, if_pos c5]; rfl
              rw [s5, inc_lt c2, updCL_lt c2, updC_lt c2, updC_lt c2]
              have key : ∀ k, k < i + 1 + 1 + 1 + 1 + 1 + 1 + 1 → meH me i k = 6 → k < i ∧ me k = 6 := by
                intro k hk h6
                have hki : k < i := by
                  rcases Nat.lt_or_ge k i with q | q
                  · exact q
                  · exfalso
                    have : k = i + 0 ∨ k = i + 1 ∨ k = i + 2 ∨ k = i + 3 ∨ k = i + 4 ∨ k = i + 5 ∨ k = i + 6 := by omega
                    rcases this with q | q | q | q | q | q | q <;> subst q
                    · exact absurd (m0.symm.trans h6) (by decide)
                    · exact absurd (m1.symm.trans h6) (by decide)
                    · exact absurd (m2.symm.trans h6) (by decide)
                    · exact absurd (m3.symm.trans h6) (by decide)
                    · exact absurd (m4.symm.trans h6) (by decide)
                    · exact absurd (m5.symm.trans h6) (by decide)
                    · exact absurd (m6.symm.trans h6) (by decide)
                exact ⟨hki, (hz k (by omega) (by omega) (by omega)).symm.trans h6⟩
              refine ⟨hu, by omega, ⟨_, rfl⟩, fun _ => ⟨hu16, _, _, _, _, wo, rfl, ⟨fun k hk => ?_, hwh⟩, fun r hr => ?_, fun k hk => ?_, fun k hk h6 => ?_⟩⟩
              · by_cases z : k = m
                · subst z; simp [vp_updL, upd]
                · obtain ⟨y1, y2, y3⟩ := hag k (by omega)
                  simp [vp_updL, upd, z, y1, y2, y3]
              · refine ((hrow r hr).grow (fun k hk h6 => ?_)).up (by omega) (fun k hk => hz k (by omega) (by omega) (by omega))
                exact hnF_app (hwo k hk h6).2
              · obtain ⟨w1, x, w2, w3⟩ := hlaw k hk
                exact ⟨w1, x, by omega, w3⟩
              · obtain ⟨k1, k2⟩ := key k hk h6
                obtain ⟨w1, w2⟩ := hwo k k1 k2
                rw [hnF_app w2]
                exact ⟨w1, w2⟩
            · refine bad 5 (fr (i + 5)) (by decide) (m + 1, vp_updL nm9 m (va (i + 1)), upd bP9 m (va (i + 3)).toInt32, bH9, u, wh9, wo) (by rw [hst, s1, s3, p2S, if_pos rfl, m5, if_neg (by decide), if_neg (by decide), if_pos rfl, if_neg c5]) _ _ ?_ ?_
              · rw [hD, if_neg c5]; rfl
              · rw [hD, if_neg c5]; rfl
      · refine bad 4 (fr (i + 1)) (by decide) (m, nm9, bP9, bH9, u, wh9, wo) (by
          have s1 : p2S fr va (meH me i) (i + 1) st = (4, fr (i + 1), m, nm9, bP9, bH9, u, wh9, wo) := by rw [hs, p2S, if_pos rfl, m1, if_pos rfl, hcn, if_pos c1, if_neg c2]
          rw [hst, s1, p2S_frozen (k := i + 3) (by decide), p2S_frozen (k := i + 5) (by decide)]) _ _ ?_ ?_
        · rw [hA, if_pos c1, if_neg c2, show tlE 4 (fr (i + 1)) (0, a) = (4, fr (i + 1)) from rfl, hB_f (by decide), hD_f (by decide)]
        · rw [hA, if_pos c1, if_neg c2, show tlE 4 (fr (i + 1)) (0, a) = (4, fr (i + 1)) from rfl, hB_f (by decide), hD_f (by decide)]
    · refine bad 2 (fr (i + 1)) (by decide) (m, nm9, bP9, bH9, u, wh9, wo) (by
        have s1 : p2S fr va (meH me i) (i + 1) st = (2, fr (i + 1), m, nm9, bP9, bH9, u, wh9, wo) := by rw [hs, p2S, if_pos rfl, m1, if_pos rfl, hcn, if_neg c1]
        rw [hst, s1, p2S_frozen (k := i + 3) (by decide), p2S_frozen (k := i + 5) (by decide)]) _ _ ?_ ?_
      · rw [hA, if_neg c1, show tlE 2 (fr (i + 1)) (0, a) = (2, fr (i + 1)) from rfl, hB_f (by decide), hD_f (by decide)]
      · rw [hA, if_neg c1, show tlE 2 (fr (i + 1)) (0, a) = (2, fr (i + 1)) from rfl, hB_f (by decide), hD_f (by decide)]
  · refine bad e a ze r0 (by rw [hst, hr0, p2S_frozen (k := i + 1) ze, p2S_frozen (k := i + 3) ze, p2S_frozen (k := i + 5) ze]) _ _ ?_ ?_
    · rw [hA_f ze, hB_f ze, hD_f ze]
    · rw [hA_f ze, hB_f ze, hD_f ze]
theorem tlN_nm {nm9 : Nat → Int64} {k : Nat} {p : Int32 × Int32} (h : ∀ x, hnF nm9 x m = hnF nm x m) : ∀ n, tlN fr va nm9 m me k p n = tlN fr va nm m me k p n
  | 0 => rfl
  | n + 1 => by rw [tlN, tlN, tlN_nm h n, tlS, tlS, h]
def mrk (x : Int32) : Prop := x = 1 ∨ x = 2 ∨ x = 3 ∨ x = 5 ∨ x = 6
/-- marks stand in their order -/
def MkOk (tq : Nat → Nat) (me : Nat → Int32) (i : Nat) : Prop := ∀ k, k < i → (me k = 0 ∨ me k = 4 ∨ (mrk (me k) ∧ (tq k = 39 ∨ tq k = 40))) ∧ (me k = 2 ∨ me k = 3 → ∃ j, j < k ∧ me j = 1) ∧ (me k = 5 → ∃ j, j < k ∧ me j = 4)
theorem MkOk.house (h : MkOk tq me i) (hme : ∀ k, i ≤ k → k ≤ Lt → me k = 0) (hl : i + 6 < Lt) (t1 : tq (i + 1) = 39) (t3 : tq (i + 1 + 1 + 1) = 40) (t5 : tq (i + 1 + 1 + 1 + 1 + 1) = 40) : MkOk tq (meH me i) (i + 1 + 1 + 1 + 1 + 1 + 1 + 1) := by
  have hz : ∀ k, k ≠ i + 1 → k ≠ i + 1 + 1 + 1 → k ≠ i + 1 + 1 + 1 + 1 + 1 → meH me i k = me k := fun k a b c => by rw [meH, upd_n c, upd_n b, upd_n a]
  have m1 : meH me i (i + 1) = 1 := by rw [meH, upd_n (by omega), upd_n (by omega), upd_s]
  intro k hk
  rcases Nat.lt_or_ge k i with c | c
  · have e := hz k (by omega) (by omega) (by omega)
    rw [e]
    refine ⟨(h k c).1, fun q => ?_, fun q => ?_⟩
    · obtain ⟨j, j1, j2⟩ := (h k c).2.1 q
      exact ⟨j, j1, (hz j (by omega) (by omega) (by omega)).trans j2⟩
    · obtain ⟨j, j1, j2⟩ := (h k c).2.2 q
      exact ⟨j, j1, (hz j (by omega) (by omega) (by omega)).trans j2⟩
  · refine ⟨?_, fun q => ⟨i + 1, ?_, m1⟩, fun q => ?_⟩
    · by_cases z1 : k = i + 1
      · exact Or.inr (Or.inr ⟨by rw [z1, m1]; exact Or.inl rfl, Or.inl (by rw [z1]; exact t1)⟩)
      by_cases z2 : k = i + 1 + 1 + 1
      · exact Or.inr (Or.inr ⟨by rw [z2, meH, upd_n (by omega), upd_s]; exact Or.inr (Or.inl rfl), Or.inr (by rw [z2]; exact t3)⟩)
      by_cases z3 : k = i + 1 + 1 + 1 + 1 + 1
      · exact Or.inr (Or.inr ⟨by rw [z3, meH, upd_s]; exact Or.inr (Or.inr (Or.inl rfl)), Or.inr (by rw [z3]; exact t5)⟩)
      exact Or.inl ((hz k z1 z2 z3).trans (hme k c (by omega)))
    · rcases Nat.lt_or_ge (i + 1) k with d | d
      · exact d
      · exfalso
        have : k = i ∨ k = i + 1 := by omega
        rcases this with z | z
        · rw [z, hz i (by omega) (by omega) (by omega), hme i (by omega) (by omega)] at q
          rcases q with q | q <;> exact absurd q (by decide)
        · rw [z, m1] at q
          rcases q with q | q <;> exact absurd q (by decide)
    · exfalso
      by_cases z1 : k = i + 1
      · rw [z1, m1] at q; exact absurd q (by decide)
      by_cases z2 : k = i + 1 + 1 + 1
      · rw [z2, meH, upd_n (by omega), upd_s] at q; exact absurd q (by decide)
      by_cases z3 : k = i + 1 + 1 + 1 + 1 + 1
      · rw [z3, meH, upd_s] at q; exact absurd q (by decide)
      rw [hz k z1 z2 z3, hme k c (by omega)] at q
      exact absurd q (by decide)
theorem MkOk.law {i2 : Nat} {me2 : Nat → Int32} (h : MkOk tq me i) (hme : ∀ k, i ≤ k → k ≤ Lt → me k = 0) (hil : i + 1 + 1 + 1 ≤ i2) (hl : i2 < Lt) (hfm : ∀ k, k < i + 1 + 1 + 1 ∨ i2 ≤ k → me2 k = upd (upd me i 4) (i + 1 + 1) 5 k) (hmk : ∀ k, i + 1 + 1 + 1 ≤ k → k < i2 → me2 k = 0 ∨ (me2 k = 6 ∧ tq k = 39)) (tn : tq (i + 1 + 1) = 39) : MkOk tq me2 (i2 + 1) := by
  have m0 : me2 i = 4 := (hfm i (by omega)).trans (by rw [upd_n (by omega), upd_s])
  have hlow : ∀ k, k < i → me2 k = me k := fun k hk => (hfm k (by omega)).trans (by rw [upd_n (by omega), upd_n (by omega)])
  intro k hk
  rcases Nat.lt_or_ge k i with c | c
  · rw [hlow k c]
    refine ⟨(h k c).1, fun q => ?_, fun q => ?_⟩
    · obtain ⟨j, j1, j2⟩ := (h k c).2.1 q
      exact ⟨j, j1, (hlow j (by omega)).trans j2⟩
    · obtain ⟨j, j1, j2⟩ := (h k c).2.2 q
      exact ⟨j, j1, (hlow j (by omega)).trans j2⟩
  · have h9 : me2 k = 4 ∨ me2 k = 0 ∨ me2 k = 5 ∨ me2 k = 6 := by
      by_cases z0 : k = i
      · exact Or.inl (by rw [z0]; exact m0)
      by_cases z1 : k = i + 1 + 1
      · exact Or.inr (Or.inr (Or.inl (by rw [z1, hfm _ (by omega), upd_s])))
      by_cases z2 : k < i + 1 + 1 + 1 ∨ i2 ≤ k
      · exact Or.inr (Or.inl (by rw [hfm k z2, upd_n z1, upd_n z0]; exact hme k c (by omega)))
      · rcases hmk k (by omega) (by omega) with q | q
        · exact Or.inr (Or.inl q)
        · exact Or.inr (Or.inr (Or.inr q.1))
    refine ⟨?_, fun q => ?_, fun q => ⟨i, ?_, m0⟩⟩
    · by_cases z0 : k = i
      · exact Or.inr (Or.inl (by rw [z0]; exact m0))
      by_cases z1 : k = i + 1 + 1
      · exact Or.inr (Or.inr ⟨by rw [z1, hfm _ (by omega), upd_s]; exact Or.inr (Or.inr (Or.inr (Or.inl rfl))), Or.inl (by rw [z1]; exact tn)⟩)
      by_cases z2 : k < i + 1 + 1 + 1 ∨ i2 ≤ k
      · exact Or.inl (by rw [hfm k z2, upd_n z1, upd_n z0]; exact hme k c (by omega))
      · rcases hmk k (by omega) (by omega) with q | q
        · exact Or.inl q
        · exact Or.inr (Or.inr ⟨Or.inr (Or.inr (Or.inr (Or.inr q.1))), Or.inl q.2⟩)
    · exfalso
      rcases h9 with z | z | z | z <;> rw [z] at q <;> rcases q with q | q <;> exact absurd q (by decide)
    · rcases Nat.lt_or_ge i k with d | d
      · exact d
      · rw [show k = i by omega, m0] at q; exact absurd q (by decide)
theorem tlK_f {k : Nat} (h : e ≠ 0) : tlK fr va nm m k (e, a) = (e, a) := by
  rw [tlK]; simp [h]
theorem lwT_f {k : Nat} (h : e ≠ 0) : lwT fr k u (e, a) = (e, a) := by
  rw [lwT]; simp [h]
theorem tlN_f {k : Nat} (h : e ≠ 0) : ∀ n, tlN fr va nm m me k (e, a) n = (e, a)
  | 0 => rfl
  | n + 1 => by rw [tlN, tlN_f h n, tlS]; simp [h]
theorem LawOk.up {o2 dz2 bg2 en2 : Nat → Int32} {S S2 k : Nat} {z0 z2 z3 z4 z5 : Int32} (h : LawOk o dz bg en S k z0 z2 z3 z4 z5) (hS : S ≤ S2) (ho : ∀ r, r < S → o2 r = o r) (hd : dz2 k = dz k) (hb : ∀ r, r < 3 * k + 3 → bg2 r = bg r ∧ en2 r = en r) : LawOk o2 dz2 bg2 en2 S2 k z0 z2 z3 z4 z5 := by
  obtain ⟨s0, s1, s2, s3, q1, q2, q3, q4, r1, r2, r3, r4, b0, e0, ht, hk⟩ := h
  refine ⟨s0, s1, s2, s3, q1, q2, q3, by omega, r1, r2, r3, r4, ?_, ?_, ?_, ?_⟩
  · rw [(hb _ (by omega)).1, b0]
  · rw [(hb _ (by omega)).2, e0]
  · rcases ht with h | h
    · exact Or.inl h
    · exact Or.inr (h.cong (fun r _ b => ho r (by omega)))
  · rcases hk with ⟨a0, a1, a2, a3, a4, a5, a6, a7⟩ | ⟨a0, a1⟩ | ⟨a0, a1, a2, a3, a6⟩
    · refine Or.inl ⟨a0, by rw [hd, a1], ?_, ?_, ?_, ?_, a6.cong (fun r _ b => ho r (by omega)), a7.cong (fun r _ b => ho r (by omega))⟩
      · rw [(hb _ (by omega)).1, a2]
      · rw [(hb _ (by omega)).2, a3]
      · rw [(hb _ (by omega)).1, a4]
      · rw [(hb _ (by omega)).2, a5]
    · exact Or.inr (Or.inl ⟨a0, by rw [hd, a1]⟩)
    · refine Or.inr (Or.inr ⟨a0, by rw [hd, a1], ?_, ?_, a6.cong (fun r _ b => ho r (by omega))⟩)
      · rw [(hb _ (by omega)).1, a2]
      · rw [(hb _ (by omega)).2, a3]
theorem BookI.law {y i2 s2 : Nat} {me2 od2 wi2 al2 dz2 bg2 en2 : Nat → Int32} {e2 a2 : Int32} {o2 g2 j2 : Nat → Int32} {z0 z1 z2 z3 z4 z5 : Int32} (h : BookI tq va st i u s me od wi al dz bg en e a o g j m nm bP bH uc l0 l1 l2 l3 l4 l5) (hy : y = min u 15) (hme : ∀ k, i ≤ k → k ≤ Lt → me k = 0)
    (hL : LawG Lt tq fr va nm m uc y i s me od wi al dz bg en e a o g j i2 s2 me2 od2 wi2 al2 dz2 bg2 en2 e2 a2 o2 g2 j2 z0 z1 z2 z3 z4 z5) (hl : i2 < Lt) :
    BookI tq va (p2N fr va me2 i st (i2 + 1 - i)) (i2 + 1) (u + 1) s2 me2 od2 wi2 al2 dz2 bg2 en2 e2 a2 o2 g2 j2 m nm bP bH (inc uc 16) (updC l0 uc 16 z0) (updC l1 uc 16 z1) (updC l2 uc 16 z2) (updC l3 uc 16 z3) (updC l4 uc 16 z4) (updC l5 uc 16 z5) := by
  obtain ⟨hu, hm, ⟨r0, hr0⟩, hg⟩ := h
  obtain ⟨tn, hz1, G, hlo, hdz, hbg⟩ := hL
  have hil := G.il
  have hsl := G.sl
  have f1 : ∀ k, k ≠ i → k ≠ i + 1 + 1 → upd (upd me i 4) (i + 1 + 1) 5 k = me k := fun k a b => by rw [upd_n b, upd_n a]
  have hlow : ∀ k, k < i → me2 k = me k := fun k hk => (G.fm k (by omega)).trans (f1 k (by omega) (by omega))
  have m0 : me2 i = 4 := (G.fm i (by omega)).trans (by rw [upd_n (by omega), upd_s])
  have m1 : me2 (i + 1) = 0 := (G.fm (i + 1) (by omega)).trans ((f1 _ (by omega) (by omega)).trans (hme _ (by omega) (by omega)))
  have m2 : me2 (i + 1 + 1) = 5 := (G.fm (i + 1 + 1) (by omega)).trans upd_s
  have m9 : me2 i2 = 0 := (G.fm i2 (by omega)).trans ((f1 _ (by omega) (by omega)).trans (hme _ (by omega) (by omega)))
  have hmk : ∀ k, i + 1 + 1 + 1 ≤ k → k < i + 1 + 1 + 1 + (i2 - (i + 1 + 1 + 1)) → me2 k = 0 ∨ me2 k = 6 := fun k a b => (G.mk k a (by omega)).imp id (fun x => x.1)
  have hst : p2N fr va me2 i st (i2 + 1 - i) = p2N fr va me2 (i + 1 + 1 + 1) (p2S fr va me2 (i + 1 + 1) (p2S fr va me2 i st)) (i2 - (i + 1 + 1 + 1)) := by
    rw [show i2 + 1 - i = 3 + (i2 - (i + 1 + 1 + 1)) + 1 by omega, p2N, show i + (3 + (i2 - (i + 1 + 1 + 1))) = i2 by omega, p2S_0 m9, p2N_add]
    show p2N fr va me2 (i + 3) (p2S fr va me2 (i + 1 + 1) (p2S fr va me2 (i + 1) (p2S fr va me2 i st))) _ = _
    rw [p2S_0 (k := i + 1) m1]
  have hui : inc uc 16 = min (u + 1) 16 := by unfold inc; split <;> omega
  have htl := G.tl
  have bad : ∀ (e3 a3 : Int32), e3 ≠ 0 → (∃ r, p2N fr va me2 i st (i2 + 1 - i) = (e3, a3, r)) → (e2, a2) = (e3, a3) → BookI tq va (p2N fr va me2 i st (i2 + 1 - i)) (i2 + 1) (u + 1) s2 me2 od2 wi2 al2 dz2 bg2 en2 e2 a2 o2 g2 j2 m nm bP bH (inc uc 16) (updC l0 uc 16 z0) (updC l1 uc 16 z1) (updC l2 uc 16 z2) (updC l3 uc 16 z3) (updC l4 uc 16 z4) (updC l5 uc 16 z5) := by
    intro e3 a3 ne hr h3
    obtain ⟨rfl, rfl⟩ := Prod.mk.inj h3
    exact ⟨hui, hm, hr, fun z => absurd z ne⟩
  by_cases ze : e = 0
  · obtain ⟨hu16, nm9, bP9, bH9, wh9, wo, hs, ⟨hag, hwh⟩, hrow, hlaw, hwo⟩ := hg ze
    subst ze
    have hcn : ∀ x, hnF nm9 x m = hnF nm x m := fun x => hnF_cong (fun k hk => (hag k hk).1)
    by_cases c1 : u < 16
    · have huc : uc = u := by omega
      have hyu : y = u := by omega
      subst huc
      subst hyu
      have s1 : p2S fr va me2 i st = (0, a, m, nm9, bP9, bH9, y + 1, wh9, wo) := by
        rw [hs, p2S, if_pos rfl, m0, if_neg (by decide), if_neg (by decide), if_neg (by decide), if_pos rfl, if_pos c1]
      have e1 : lwT fr i y (0, a) = (0, a) := by rw [lwT, if_pos c1]
      rw [e1] at htl
      by_cases c2 : hnF nm (va (i + 1 + 1)) m = -1
      · refine bad 3 (fr (i + 1 + 1)) (by decide) ⟨(m, nm9, bP9, bH9, y + 1, wh9, wo), ?_⟩ ?_
        · have s2 : p2S fr va me2 (i + 1 + 1) (0, a, m, nm9, bP9, bH9, y + 1, wh9, wo) = (3, fr (i + 1 + 1), m, nm9, bP9, bH9, y + 1, wh9, wo) := by
            rw [p2S, if_pos rfl, m2, if_neg (by decide), if_neg (by decide), if_neg (by decide), if_neg (by decide), if_pos rfl, hcn, if_pos c2]
          rw [hst, s1, s2, p2N_frozen (by decide)]
        · rw [htl, tlK, if_pos c2]
          exact tlN_f (e := 3) (a := fr (i + 1 + 1)) (by decide) _
      · have s2 : p2S fr va me2 (i + 1 + 1) (0, a, m, nm9, bP9, bH9, y + 1, wh9, wo) = (0, a, m, nm9, bP9, bH9, y + 1, upd wh9 y (hnF nm (va (i + 1 + 1)) m), upd wo (i + 1 + 1) (hnF nm (va (i + 1 + 1)) m)) := by
          rw [p2S, if_pos rfl, m2, if_neg (by decide), if_neg (by decide), if_neg (by decide), if_neg (by decide), if_pos rfl, hcn, if_neg c2]; rfl
        have e3 : tlK fr va nm m (i + 1 + 1) (0, a) = (0, a) := by rw [tlK, if_neg c2]
        rw [e3] at htl
        obtain ⟨r, e4, a4, p1, p2, p3⟩ := p2N_tl (fr := fr) (va := va) (nm := nm9) (me := me2) (i := i + 1 + 1 + 1) (m := m) (u := y + 1) (e := 0) (a := a) (bP := bP9) (bH := bH9) (wh := upd wh9 y (hnF nm (va (i + 1 + 1)) m)) (wo := upd wo (i + 1 + 1) (hnF nm (va (i + 1 + 1)) m)) hmk
        have h9 : p2N fr va me2 i st (i2 + 1 - i) = (e4, a4, r) := by rw [hst, s1, s2, p1]
        have h8 : (e2, a2) = (e4, a4) := htl.trans ((tlN_nm hcn _).symm.trans p2.symm)
        by_cases z4 : e4 = 0
        · obtain ⟨-, wo2, hr, hf, hw⟩ := p3 z4
          obtain ⟨rfl, rfl⟩ := Prod.mk.inj h8
          rw [h9, hr]
          rw [inc_lt c1, updC_lt c1, updC_lt c1, updC_lt c1, updC_lt c1, updC_lt c1, updC_lt c1]
          refine ⟨by omega, hm, ⟨_, rfl⟩, fun _ => ⟨by omega, nm9, bP9, bH9, _, wo2, rfl, ⟨hag, fun k hk => ?_⟩, fun r hr => ?_, fun k hk => ?_, fun k hk h6 => ?_⟩⟩
          · by_cases z : k = y
            · subst z; rw [upd_s, upd_s, hz1]
            · rw [upd_n z, upd_n z]; exact hwh k (by omega)
          · rcases Nat.lt_or_ge r s with q | q
            · obtain ⟨q1, q2, q3, q4, q5, q6⟩ := G.fs r q
              rw [q1, q2, q3, q4, q5, q6]
              exact (hrow r q).up (by omega) hlow
            · exact (G.rw_ r q hr).up (by omega) (fun _ _ => rfl)
          · rcases Nat.lt_or_ge k y with q | q
            · obtain ⟨w1, x, w2, w3⟩ := hlaw k q
              refine ⟨?_, x, w2, by rw [upd_n (by omega)]; exact w3⟩
              rw [upd_n (by omega), upd_n (by omega), upd_n (by omega), upd_n (by omega), upd_n (by omega)]
              exact w1.up hsl (fun r hr => (G.fs r hr).2.2.2.1) (hdz k (by omega)) (fun r hr => hbg r (by omega))
            · have : k = y := by omega
              subst this
              obtain ⟨x, x1, x2⟩ := hnF_lt c2
              refine ⟨?_, x, x1, by rw [upd_s, hz1]; exact x2⟩
              rw [upd_s, upd_s, upd_s, upd_s, upd_s]
              exact hlo
          · rcases Nat.lt_or_ge k i with q | q
            · obtain ⟨w1, w2⟩ := hwo k q ((hlow k q).symm.trans h6)
              refine ⟨?_, w2⟩
              rw [hf k (by omega), upd_n (by omega)]
              exact w1
            · have : k = i ∨ k = i + 1 ∨ k = i + 1 + 1 ∨ k = i2 ∨ (i + 1 + 1 + 1 ≤ k ∧ k < i2) := by omega
              rcases this with q | q | q | q | q
              · subst q; exact absurd (m0.symm.trans h6) (by decide)
              · subst q; exact absurd (m1.symm.trans h6) (by decide)
              · subst q; exact absurd (m2.symm.trans h6) (by decide)
              · subst q; exact absurd (m9.symm.trans h6) (by decide)
              · rw [← hcn]; exact hw k q.1 (by omega) h6
        · exact bad e4 a4 z4 ⟨r, h9⟩ h8
    · refine bad 4 (fr i) (by decide) ⟨(m, nm9, bP9, bH9, u, wh9, wo), ?_⟩ ?_
      · have s1 : p2S fr va me2 i st = (4, fr i, m, nm9, bP9, bH9, u, wh9, wo) := by
          rw [hs, p2S, if_pos rfl, m0, if_neg (by decide), if_neg (by decide), if_neg (by decide), if_pos rfl, if_neg c1]
        rw [hst, s1, p2S_frozen (k := i + 1 + 1) (by decide), p2N_frozen (by decide)]
      · rw [htl, lwT, if_neg (by omega)]
        show tlN fr va nm m me2 (i + 1 + 1 + 1) (tlK fr va nm m (i + 1 + 1) (4, fr i)) _ = _
        rw [tlK_f (by decide), tlN_f (by decide)]
  · refine bad e a ze ⟨r0, ?_⟩ ?_
    · rw [hst, hr0, p2S_frozen (k := i) ze, p2S_frozen (k := i + 1 + 1) ze, p2N_frozen ze]
    · rw [htl, lwT_f ze]
      show tlN fr va nm m me2 (i + 1 + 1 + 1) (tlK fr va nm m (i + 1 + 1) (e, a)) _ = _
      rw [tlK_f ze, tlN_f ze]
end
section
variable {tk : Nat → Nat} {sf : Nat → Int32} {vf nm : Nat → Int64} {bP bH : Nat → Int32} {m i u : Nat} {q : PS} {e a : Int32} {r : RT}
theorem lineC_l {i2 s2 : Nat} {e2 a2 z0 z1 z2 z3 z4 z5 : Int32} {o2 g2 j2 l0 l1 l2 l3 l4 l5 : Nat → Int32} (t0 : tk i = 3) (t : tk i2 = 28) (h : lawC tk sf vf nm m u (i, false, e, a, r) = ((i2, false, e2, a2, s2, o2, g2, j2), z0, z1, z2, z3, z4, z5)) :
    lineC tk sf vf ((i, false, e, a, r), m, nm, bP, bH, u, l0, l1, l2, l3, l4, l5) = ((i2 + 1, false, e2, a2, s2, o2, g2, j2), m, nm, bP, bH, inc u 16, updC l0 u 16 z0, updC l1 u 16 z1, updC l2 u 16 z2, updC l3 u 16 z3, updC l4 u 16 z4, updC l5 u 16 z5) := by
  rw [lineC, if_neg (now_ne (c := 0) t0 (by decide)), h, takeC_ok t]
/-- a line breaks: so is the whole -/
theorem lineC_bh {l0 l1 l2 l3 l4 l5 : Nat → Int32} {i2 : Nat} {a2 : Int32} (t0 : tk i = 0) (h : Bk (takeC tk sf 28 (houC tk sf vf nm m bP (i, false, e, a, r)).1) i2 a2) : ∃ X, lineC tk sf vf ((i, false, e, a, r), m, nm, bP, bH, u, l0, l1, l2, l3, l4, l5) = X ∧ Bk X.1 i2 a2 :=
  ⟨_, rfl, by rw [lineC, if_pos (now_eq t0)]; dsimp only; exact h⟩
theorem lineC_bl {l0 l1 l2 l3 l4 l5 : Nat → Int32} {i2 : Nat} {a2 : Int32} (t0 : tk i ≠ 0) (h : Bk (takeC tk sf 28 (lawC tk sf vf nm m u (i, false, e, a, r)).1) i2 a2) : ∃ X, lineC tk sf vf ((i, false, e, a, r), m, nm, bP, bH, u, l0, l1, l2, l3, l4, l5) = X ∧ Bk X.1 i2 a2 :=
  ⟨_, rfl, by rw [lineC, if_neg (now_nn t0)]; dsimp only; exact h⟩
theorem readR_go {f : Nat} {X : RS} (hf : 0 < f) (h1 : nowC tk X.1 ≠ 41) (h2 : ¬ brkC X.1 = true) : readR tk sf vf f X = readR tk sf vf (f - 1) (lineC tk sf vf X) := by
  obtain ⟨n, rfl⟩ : ∃ n, f = n + 1 := ⟨f - 1, by omega⟩
  rw [readR, if_neg h1, if_neg h2]; rfl
theorem readR_end {f : Nat} {X : RS} (h1 : nowC tk X.1 = 41) : readR tk sf vf f X = X := by
  cases f with
  | zero => rfl
  | succ n => rw [readR, if_pos h1]
theorem readR_brk {f : Nat} {X : RS} (h1 : brkC X.1 = true) : readR tk sf vf f X = X := by
  cases f with
  | zero => rfl
  | succ n =>
    by_cases h9 : nowC tk X.1 = 41
    · rw [readR, if_pos h9]
    · rw [readR, if_neg h9, if_pos h1]
end

