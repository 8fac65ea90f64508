theorem dig_let : ∀ c, c < 128 → isDig (nI c) = true → isLet (nI c) = false := by decide +kernel
theorem bl_hd {I : List It} (h : ItsOk I) (h8 : Sml (flI I)) : isBl (sB (hdT (flI I))) = false := by
  cases I with
  | nil => decide
  | cons it r =>
    obtain ⟨⟨h1, h2, -⟩, -⟩ := h
    obtain ⟨w, bl, k, v⟩ := it
    cases w with
    | nil => exact absurd h1 (Nat.lt_irrefl _)
    | cons c w =>
      have e : hdT (flI (((c :: w), bl, k, v) :: r)) = c := rfl
      have hc : c < 128 := h8 c (by simp [flI])
      rw [e, sB, if_neg (by omega)]
      exact h2
/-- one token on -/
theorem lex_one {T : List Nat} {tb : Nat → Int32} (hT : TpOk T tb) (h8 : Sml T) (hl : T.length ≤ 1900) {i s : Nat} (hi : i < 400) (hs : stN T.length tb i = s) {it : It} {I : List It} (hd : T.drop s = (it.1 ++ it.2.1) ++ flI I) (hok : ItsOk (it :: I)) : tkT T.length tb i = it.2.2.1 ∧ tkV T.length tb i s = it.2.2.2 ∧ tkN T.length tb i s = nI (s + it.1.length) ∧ stN T.length tb (i + 1) = s + (it.1 ++ it.2.1).length := by
  obtain ⟨w, bl, k, v⟩ := it
  dsimp only at hd ⊢
  obtain ⟨⟨h1, h2, h3, h4⟩, h5⟩ := hok
  dsimp only at h1 h2 h3 h4
  have hlen : s + (w.length + bl.length) + (flI I).length = T.length := by
    have h6 : (T.drop s).length = ((w ++ bl) ++ flI I).length := by rw [hd]
    rw [List.length_drop, List.length_append, List.length_append] at h6
    omega
  have hd2 : T.drop s = w ++ (bl ++ flI I) := by rw [hd, List.append_assoc]
  obtain ⟨g1, g2⟩ := sg_row hT h8 hd2 (by omega)
  have hd3 : T.drop (s + w.length) = bl ++ flI I := by
    rw [← List.drop_drop, hd2, List.drop_left]
  obtain ⟨g3, g4⟩ := sg_row hT h8 hd3 (by omega)
  have c0 := g1 0 h1
  rw [Nat.add_zero] at c0
  have hm1 : ¬ sgN T.length tb s = -1 := by
    rw [c0.1]
    intro e
    have key : ∀ c, c < 128 → ¬ nI c = -1 := by decide +kernel
    exact key _ c0.2 e
  have h400 : ¬ i = 400 := by omega
  have main : tkK T.length tb i s = k ∧ tkV T.length tb i s = v ∧ tkN T.length tb i s = nI (s + w.length) := by
    rcases h4 with ⟨a1, a2, a3, a4, a5⟩ | ⟨a1, a2, a3, rfl, rfl⟩ | ⟨rfl, a5⟩
    · have hL : wdL T.length tb s = w.length := by
        refine runL_is (fun j hj => ?_) ?_ (by omega)
        · rw [(g1 j hj).1]
          refine a2 _ ?_
          rw [List.getD_eq_getElem?_getD, List.getElem?_eq_getElem hj]
          exact List.getElem_mem hj
        · rw [g2]; exact a4
      have hV : wVal T.length tb s w.length = wV w 0 := by
        rw [wVal_is (fun j hj => (g1 j hj).1) _ (Nat.le_refl _), List.take_length]
      have hlet : isLet (sgN T.length tb s) = true := by rw [c0.1]; exact a1
      unfold tkK tkV tkN
      rw [if_neg hm1, if_neg hm1, if_neg hm1, if_neg h400, if_neg h400, if_neg h400, if_pos hlet, if_pos hlet, if_pos hlet]
      unfold wdK wdV wdN
      rw [hL, if_pos a3, if_pos a3, if_pos a3, hV]
      rcases a5 with ⟨b1, rfl⟩ | ⟨b1, rfl, rfl⟩
      · rw [b1]; exact ⟨rfl, rfl, rfl⟩
      · rw [b1]; exact ⟨rfl, rfl, rfl⟩
    · have hin : ∀ j, j < w.length → w.getD j 0 ∈ w := fun j hj => by
        rw [List.getD_eq_getElem?_getD, List.getElem?_eq_getElem hj]
        exact List.getElem_mem hj
      have hdig : isDig (sgN T.length tb s) = true := by rw [c0.1]; exact a1 _ (hin 0 h1)
      have hlet : ¬ isLet (sgN T.length tb s) = true := by
        rw [c0.1, dig_let _ c0.2 (a1 _ (hin 0 h1))]
        exact Bool.false_ne_true
      have hL : nmL T.length tb s = w.length := by
        refine runL_is (fun j hj => ?_) ?_ (by omega)
        · rw [(g1 j hj).1]; exact a1 _ (hin j hj)
        · rw [g2]; exact a3
      have hV : nVal T.length tb s w.length = nV w 0 := by
        rw [nVal_is (fun j hj => (g1 j hj).1) _ (Nat.le_refl _), List.take_length]
      unfold tkK tkV tkN
      rw [if_neg hm1, if_neg hm1, if_neg hm1, if_neg h400, if_neg h400, if_neg h400, if_neg hlet, if_neg hlet, if_neg hlet, if_pos hdig, if_pos hdig, if_pos hdig]
      unfold nmK nmV nmN
      rw [hL, if_pos a2, if_pos a2, if_pos a2, hV]
      exact ⟨rfl, rfl, rfl⟩
    · rcases a5 with ⟨c, rfl, b1, b2, b3, b4, b5⟩ | ⟨rfl, rfl⟩ | ⟨rfl, rfl⟩
      · have hc : sgN T.length tb s = nI c := c0.1
        have hn : sgN T.length tb (s + 1) = sB (hdT (bl ++ flI I)) := g2
        unfold tkK tkV tkN
        rw [if_neg hm1, if_neg hm1, if_neg hm1, if_neg h400, if_neg h400, if_neg h400, hc, b1, b2, hn]
        have hcc : c < 128 := c0.2
        have h60 : (nI c = 60) → c = 60 := fun e => (nI_eq (b := 60) (by omega) (by decide)).mp e
        have h62 : (nI c = 62) → c = 62 := fun e => (nI_eq (b := 62) (by omega) (by decide)).mp e
        refine ⟨?_, rfl, ?_⟩
        · rw [if_neg (by decide), if_neg (by decide), syK, if_neg (fun q => b3 ⟨q.1, Or.inl (h60 q.2)⟩), if_neg (fun q => b3 ⟨q.1, Or.inr (h62 q.2)⟩)]
          exact b4
        · rw [if_neg (by decide), if_neg (by decide), syN, if_neg (fun q => b3 ⟨q.1, Or.inl (h60 q.2)⟩), if_neg (fun q => b3 ⟨q.1, Or.inr (h62 q.2)⟩), if_neg (by rw [b4]; exact b5)]
          rfl
      · have hc : sgN T.length tb s = 60 := c0.1
        have hn : sgN T.length tb (s + 1) = 61 := (g1 1 (by decide)).1
        unfold tkK tkV tkN
        rw [if_neg hm1, if_neg hm1, if_neg hm1, if_neg h400, if_neg h400, if_neg h400, hc, hn]
        exact ⟨rfl, rfl, rfl⟩
      · have hc : sgN T.length tb s = 62 := c0.1
        have hn : sgN T.length tb (s + 1) = 61 := (g1 1 (by decide)).1
        unfold tkK tkV tkN
        rw [if_neg hm1, if_neg hm1, if_neg hm1, if_neg h400, if_neg h400, if_neg h400, hc, hn]
        exact ⟨rfl, rfl, rfl⟩
  have hp : pN T.length tb (i + 1) = s + w.length := by
    rw [pN]
    show (tkN T.length tb i (stN T.length tb i)).toNatClampNeg = _
    rw [hs, main.2.2, nI_clamp (by omega)]
  have hb : blL T.length tb (s + w.length) = bl.length := by
    refine runL_is (fun j hj => ?_) ?_ (by omega)
    · rw [(g3 j hj).1]
      refine h3 _ ?_
      rw [List.getD_eq_getElem?_getD, List.getElem?_eq_getElem hj]
      exact List.getElem_mem hj
    · rw [g4]
      refine bl_hd h5 (fun c hc => h8 c (List.mem_of_mem_drop (i := s) ?_))
      rw [hd]
      exact List.mem_append_right _ hc
  refine ⟨by rw [tkT, hs]; exact main.1, main.2.1, main.2.2, ?_⟩
  rw [stN, hp, hb, List.length_append]
  omega
