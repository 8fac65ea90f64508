theorem dig_let : ∀ c, c < 128 → isDig (nI c) = true → isLet (nI c) = false := by decide +kernel
theorem ne_m1 : ∀ c, c < 128 → ¬ nI c = -1 := by decide +kernel
/-- a token's signs, before nx -/
def TkO (w : List Nat) (nx : Int32) (k : Nat) (v : Int64) : Prop := 0 < w.length ∧ isBl (nI (w.getD 0 0)) = false ∧ (wdOk w nx k v ∨ nmOk w nx k v ∨ syOk w nx k v)
theorem gd_mem {w : List Nat} {j : Nat} (hj : j < w.length) : w.getD j 0 ∈ w := by
  rw [List.getD_eq_getElem?_getD, List.getElem?_eq_getElem hj]
  exact List.getElem_mem hj
/-- one token on -/
theorem lex_one {T : List Nat} {tb : Nat → Int32} (hT : TpOk T tb) (h8 : Sml T) (hl : T.length ≤ 1900) {i s0 : Nat} (hi : i < 400) (hp0 : pN T.length tb i = s0) {bl w r : List Nat} {k : Nat} {v : Int64} (hd0 : T.drop s0 = bl ++ (w ++ r)) (h3 : ∀ c, c ∈ bl → isBl (nI c) = true) (ok : TkO w (sB (hdT r)) k v) : tkT T.length tb i = k ∧ tkV T.length tb i (stN T.length tb i) = v ∧ ¬ tkN T.length tb i (stN T.length tb i) = -1 ∧ pN T.length tb (i + 1) = s0 + bl.length + w.length := by
  obtain ⟨h1, h2, h4⟩ := ok
  have hlen : s0 + (bl.length + (w.length + r.length)) = T.length := by
    have h6 : (T.drop s0).length = (bl ++ (w ++ r)).length := by rw [hd0]
    rw [List.length_drop, List.length_append, List.length_append] at h6
    omega
  obtain ⟨g3, g4⟩ := sg_row hT h8 hd0 (by omega)
  obtain ⟨s, hs0⟩ : ∃ s, s = s0 + bl.length := ⟨_, rfl⟩
  have hd2 : T.drop s = w ++ r := by
    rw [hs0, ← List.drop_drop, hd0, List.drop_left]
  rw [← hs0] at g4
  obtain ⟨g1, g2⟩ := sg_row hT h8 hd2 (by omega)
  have c0 := g1 0 h1
  rw [Nat.add_zero] at c0
  have hb : blL T.length tb s0 = bl.length := by
    refine runL_is (fun j hj => ?_) ?_ (by omega)
    · rw [(g3 j hj).1]
      exact h3 _ (gd_mem hj)
    · rw [← hs0, c0.1]
      exact h2
  have hs : stN T.length tb i = s := by rw [stN, hp0, hb, hs0]
  have hm1 : ¬ sgN T.length tb s = -1 := by
    rw [c0.1]
    exact ne_m1 _ c0.2
  have h400 : ¬ i = 400 := by omega
  have main : tkK T.length tb i s = k ∧ tkV T.length tb i s = v ∧ tkN T.length tb i s = nI (s + w.length) := by
    unfold tkK tkV tkN
    rw [if_neg hm1, if_neg hm1, if_neg hm1, if_neg h400, if_neg h400, if_neg h400]
    rcases h4 with ⟨a1, a2, a3, a4, a5⟩ | ⟨a1, a2, a3, rfl, rfl⟩ | ⟨rfl, a5⟩
    · have hL : wdL T.length tb s = w.length := by
        refine runL_is (fun j hj => ?_) ?_ (by omega)
        · show (isLet (sgN T.length tb (s + j)) || isDig (sgN T.length tb (s + j))) = true
          rw [(g1 j hj).1]
          exact a2 _ (gd_mem hj)
        · show (isLet (sgN T.length tb (s + w.length)) || isDig (sgN T.length tb (s + w.length))) = false
          rw [g2]; exact a4
      have hV : wVal T.length tb s w.length = wV w 0 := by
        rw [wVal_is (fun j hj => (g1 j hj).1) _ (Nat.le_refl _), List.take_length]
      have hlet : isLet (sgN T.length tb s) = true := by rw [c0.1]; exact a1
      rw [if_pos hlet, if_pos hlet, if_pos hlet]
      unfold wdK wdV wdN
      rw [hL, if_pos a3, if_pos a3, if_pos a3, hV]
      rcases a5 with ⟨b1, rfl⟩ | ⟨b1, rfl, rfl⟩
      · rw [b1]; exact ⟨rfl, rfl, rfl⟩
      · rw [b1]; exact ⟨rfl, rfl, rfl⟩
    · have hdig : isDig (sgN T.length tb s) = true := by rw [c0.1]; exact a1 _ (gd_mem h1)
      have hlet : ¬ isLet (sgN T.length tb s) = true := by
        rw [c0.1, dig_let _ c0.2 (a1 _ (gd_mem h1))]
        exact Bool.false_ne_true
      have hL : nmL T.length tb s = w.length := by
        refine runL_is (fun j hj => ?_) ?_ (by omega)
        · show isDig (sgN T.length tb (s + j)) = true
          rw [(g1 j hj).1]; exact a1 _ (gd_mem hj)
        · show isDig (sgN T.length tb (s + w.length)) = false
          rw [g2]; exact a3
      have hV : nVal T.length tb s w.length = nV w 0 := by
        rw [nVal_is (fun j hj => (g1 j hj).1) _ (Nat.le_refl _), List.take_length]
      rw [if_neg hlet, if_neg hlet, if_neg hlet, if_pos hdig, if_pos hdig, if_pos hdig]
      unfold nmK nmV nmN
      rw [hL, if_pos a2, if_pos a2, if_pos a2, hV]
      exact ⟨rfl, rfl, rfl⟩
    · rcases a5 with ⟨c, rfl, b1, b2, b3, b4, b5⟩ | ⟨rfl, rfl⟩ | ⟨rfl, rfl⟩
      · have hc : sgN T.length tb s = nI c := c0.1
        have hn : sgN T.length tb (s + 1) = sB (hdT r) := g2
        have hcc : c < 128 := c0.2
        have h60 : (nI c = 60) → c = 60 := fun e => (nI_eq (b := 60) (by omega) (by decide)).mp e
        have h62 : (nI c = 62) → c = 62 := fun e => (nI_eq (b := 62) (by omega) (by decide)).mp e
        have hlet : ¬ isLet (sgN T.length tb s) = true := by rw [hc, b1]; exact Bool.false_ne_true
        have hdig : ¬ isDig (sgN T.length tb s) = true := by rw [hc, b2]; exact Bool.false_ne_true
        rw [if_neg hlet, if_neg hlet, if_neg hlet, if_neg hdig, if_neg hdig, if_neg hdig, hc, hn]
        refine ⟨?_, rfl, ?_⟩
        · rw [syK, if_neg (fun q => b3 ⟨q.1, Or.inl (h60 q.2)⟩), if_neg (fun q => b3 ⟨q.1, Or.inr (h62 q.2)⟩)]
          exact b4
        · rw [syN, if_neg (fun q => b3 ⟨q.1, Or.inl (h60 q.2)⟩), if_neg (fun q => b3 ⟨q.1, Or.inr (h62 q.2)⟩), if_neg (by rw [b4]; exact b5)]
          rfl
      · have hc : sgN T.length tb s = 60 := c0.1
        have hn : sgN T.length tb (s + 1) = 61 := (g1 1 (by decide)).1
        rw [hc, hn]
        exact ⟨rfl, rfl, rfl⟩
      · have hc : sgN T.length tb s = 62 := c0.1
        have hn : sgN T.length tb (s + 1) = 61 := (g1 1 (by decide)).1
        rw [hc, hn]
        exact ⟨rfl, rfl, rfl⟩
  refine ⟨by rw [tkT, hs]; exact main.1, by rw [hs]; exact main.2.1, by rw [hs, main.2.2]; exact nI_ne1 (by omega), ?_⟩
  rw [pN]
  show (tkN T.length tb i (stN T.length tb i)).toNatClampNeg = _
  rw [hs, main.2.2, nI_clamp (by omega), hs0]
/-- behind the last token -/
theorem lex_end {T : List Nat} {tb : Nat → Int32} (hT : TpOk T tb) (h8 : Sml T) (hl : T.length ≤ 1900) {i s0 : Nat} (hp0 : pN T.length tb i = s0) (h3 : ∀ c, c ∈ T.drop s0 → isBl (nI c) = true) : tkT T.length tb i = 41 ∧ tkN T.length tb i (stN T.length tb i) = -1 := by
  have hs2 : s0 ≤ 2000 := by rw [← hp0]; exact pN_le _ _ _
  have hle : (T.drop s0).length ≤ 1900 := by rw [List.length_drop]; omega
  have hd0 : T.drop s0 = T.drop s0 ++ [] := (List.append_nil _).symm
  obtain ⟨g3, g4⟩ := sg_row hT h8 hd0 (by omega)
  have hle2 : s0 ≤ T.length → s0 + (T.drop s0).length = T.length := fun q => by rw [List.length_drop]; omega
  have e1 : sB (hdT ([] : List Nat)) = -1 := rfl
  rw [e1] at g4
  have hb : blL T.length tb s0 = (T.drop s0).length := by
    refine runL_is (fun j hj => ?_) ?_ ?_
    · rw [(g3 j hj).1]
      exact h3 _ (gd_mem hj)
    · rw [g4]
      decide
    · rw [List.length_drop]; omega
  have hs : stN T.length tb i = s0 + (T.drop s0).length := by rw [stN, hp0, hb]
  constructor
  · rw [tkT, hs, tkK, if_pos g4]
  · rw [hs, tkN, if_pos g4]
/-- the text holds the tokens -/
def Fl : List (Nat × Int64) → List Nat → Prop
  | [], T => ∀ c, c ∈ T → isBl (nI c) = true
  | t :: I, T => ∃ bl w r, T = bl ++ (w ++ r) ∧ (∀ c, c ∈ bl → isBl (nI c) = true) ∧ TkO w (sB (hdT r)) t.1 t.2 ∧ Fl I r
def AtT (tk : Nat → Nat) (vf : Nat → Int64) : Nat → List (Nat × Int64) → Prop
  | _, [] => True
  | i, t :: I => tk i = t.1 ∧ vf i = t.2 ∧ AtT tk vf (i + 1) I
theorem AtT.congr {tk : Nat → Nat} {vf vg : Nat → Int64} : ∀ {I : List (Nat × Int64)} {i : Nat}, AtT tk vf i I → (∀ j, j < i + I.length → vg j = vf j) → AtT tk vg i I
  | [], _, _, _ => trivial
  | t :: I, i, h, e => ⟨h.1, (e i (by simp only [List.length_cons]; omega)).trans h.2.1, AtT.congr h.2.2 (fun j hj => e j (by simp only [List.length_cons]; omega))⟩
theorem AtT.app {tk : Nat → Nat} {vf : Nat → Int64} {J : List (Nat × Int64)} : ∀ {I : List (Nat × Int64)} {i : Nat}, AtT tk vf i (I ++ J) → AtT tk vf i I ∧ AtT tk vf (i + I.length) J
  | [], _, h => ⟨trivial, h⟩
  | t :: I, i, h => by
    obtain ⟨h1, h2⟩ := AtT.app (I := I) h.2.2
    refine ⟨⟨h.1, h.2.1, h1⟩, ?_⟩
    have e : i + (t :: I).length = i + 1 + I.length := by simp only [List.length_cons]; omega
    rw [e]
    exact h2
theorem lex_all {T : List Nat} {tb : Nat → Int32} (hT : TpOk T tb) (h8 : Sml T) (hl : T.length ≤ 1900) : ∀ (I : List (Nat × Int64)) (i s0 : Nat), pN T.length tb i = s0 → Fl I (T.drop s0) → i + I.length ≤ 400 → AtT (tkT T.length tb) (fun j => tkV T.length tb j (stN T.length tb j)) i I ∧ tkT T.length tb (i + I.length) = 41 ∧ tkN T.length tb (i + I.length) (stN T.length tb (i + I.length)) = -1 ∧ ∀ j, i ≤ j → j < i + I.length → ¬ tkN T.length tb j (stN T.length tb j) = -1
  | [], i, s0, hp, hF, _ => by
    obtain ⟨h1, h2⟩ := lex_end hT h8 hl hp hF
    exact ⟨trivial, h1, h2, fun j h3 h4 => by simp only [List.length_nil] at h4; omega⟩
  | t :: I, i, s0, hp, hF, hi => by
    obtain ⟨bl, w, r, e, hb, ok, hF2⟩ := hF
    simp only [List.length_cons] at hi
    obtain ⟨a1, a2, a3, a4⟩ := lex_one hT h8 hl (by omega) hp e hb ok
    have e2 : T.drop (s0 + bl.length + w.length) = r := by
      rw [← List.drop_drop, ← List.drop_drop, e, List.drop_left, List.drop_left]
    obtain ⟨b1, b2, b3, b4⟩ := lex_all hT h8 hl I (i + 1) _ a4 (by rw [e2]; exact hF2) (by omega)
    have e3 : i + (t :: I).length = i + 1 + I.length := by simp only [List.length_cons]; omega
    rw [e3]
    refine ⟨⟨a1, a2, b1⟩, b2, b3, fun j h3 h4 => ?_⟩
    rcases Nat.eq_or_lt_of_le h3 with h5 | h5
    · rw [← h5]; exact a3
    · exact b4 j (by omega) h4
/-- the tokens of a told text -/
theorem lex_text {T : List Nat} {tb : Nat → Int32} (hT : TpOk T tb) (h8 : Sml T) (hl : T.length ≤ 1900) {I : List (Nat × Int64)} (hF : Fl I T) (hi : I.length ≤ 399) (vf0 : Nat → Int64) : AtT (tkT T.length tb) (vfF T.length tb vf0 (tL T.length tb + 1)) 0 I ∧ tkT T.length tb I.length = 41 ∧ tL T.length tb = I.length := by
  obtain ⟨b1, b2, b3, b4⟩ := lex_all hT h8 hl I 0 0 rfl hF (by omega)
  rw [Nat.zero_add] at b2 b3 b4
  obtain ⟨c1, c2, c3⟩ := tL_spec T.length tb
  have e : tL T.length tb = I.length := by
    rcases Nat.lt_trichotomy (tL T.length tb) I.length with c | c | c
    · exact absurd c2 (b4 _ (by omega) c)
    · exact c
    · exact absurd b3 (c3 _ c)
  refine ⟨AtT.congr b1 (fun j hj => ?_), b2, e⟩
  rw [Nat.zero_add] at hj
  exact vfF_at (by omega)
