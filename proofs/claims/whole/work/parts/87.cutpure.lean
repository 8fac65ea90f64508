theorem tkM_lt (m : Nat) (tb : Nat → Int32) (s : Nat) : tkM m tb s < 43 := by
  have h := tkK_lt m tb 0 s
  unfold tkK at h
  unfold tkM
  rwa [if_neg (show ¬ (0 : Nat) = 400 by decide)] at h
theorem tkT_M {m : Nat} {tb : Nat → Int32} {k : Nat} (hk : k ≠ 400) : tkT m tb k = tkM m tb (stN m tb k) := by
  unfold tkT tkK tkM
  rw [if_neg hk]
theorem tkT_400 {m : Nat} {tb : Nat → Int32} (h : tkM m tb (stN m tb 400) ≠ 41) : tkT m tb 400 = 42 := by
  unfold tkT tkK
  have h1 : ¬ sgN m tb (stN m tb 400) = -1 := fun e => h (by rw [tkM, if_pos e])
  rw [if_neg h1, if_pos rfl]
theorem cut_no {m : Nat} {tb : Nat → Int32} {k : Nat} (e : ¬ sgN m tb (stN m tb k) = -1) : tkM m tb (stN m tb k) ≠ 41 := by
  intro h
  rw [tkM, if_neg e] at h
  have hs := bl_le (m := m) (tb := tb) (s := pN m tb k) (pN_le m tb k)
  by_cases h1 : isLet (sgN m tb (stN m tb k)) = true
  · rw [if_pos h1, wdK] at h
    split at h
    · rename_i hL
      have hw0 := word_ne (m := m) (tb := tb) hL (wd_pos hs h1) (fun j hj => wd_in hj)
      cases hkw : kwO (wVal m tb (stN m tb k) (wdL m tb (stN m tb k))) with
      | none => rw [hkw] at h; exact absurd h (by decide)
      | some x =>
        have := kw_lt hkw hw0
        rw [hkw] at h
        have q : x = 41 := h
        omega
    · exact absurd h (by decide)
  · rw [if_neg h1] at h
    by_cases h2 : isDig (sgN m tb (stN m tb k)) = true
    · rw [if_pos h2, nmK] at h
      split at h <;> exact absurd h (by decide)
    · rw [if_neg h2] at h
      have h3 : (fun k => k != 41) (syK (sgN m tb (stN m tb k)) (sgN m tb (stN m tb k + 1))) = true := by
        have hi : ∀ {c : Prop} [Decidable c] {a b : Nat}, (fun k => k != 41) a = true → (fun k => k != 41) b = true → (fun k => k != 41) (if c then a else b) = true := by
          intro c _ a b ha hb
          split
          · exact ha
          · exact hb
        unfold syK symK
        repeat (first | exact rfl | refine hi rfl ?_)
      rw [h] at h3
      exact absurd h3 (by decide)
theorem tkT_41 {m : Nat} {tb : Nat → Int32} {k : Nat} (h : tkM m tb (stN m tb k) = 41) : tkT m tb k = 41 := by
  by_cases e : sgN m tb (stN m tb k) = -1
  · unfold tkT tkK; rw [if_pos e]
  · exact absurd h (cut_no e)
theorem cut_fin {m : Nat} {tb : Nat → Int32} {k : Nat} (hk : k ≤ tL m tb) (h : tkT m tb k = 41 ∨ tkT m tb k = 42) : k = tL m tb := by
  rcases Nat.lt_or_ge k (tL m tb) with c | c
  · exfalso
    have h1 := (tL_spec m tb).2.2 k c
    apply h1
    have h4 := (tL_spec m tb).1
    have hk4 : ¬ k = 400 := by omega
    have hs := bl_le (m := m) (tb := tb) (s := pN m tb k) (pN_le m tb k)
    by_cases e : sgN m tb (stN m tb k) = -1
    · rw [tkN, if_pos e]
    · rcases h with h | h
      · have : tkM m tb (stN m tb k) = 41 := (tkT_M hk4).symm.trans h
        exact absurd this (cut_no e)
      · rw [tkT_M hk4, tkM, if_neg e] at h
        rw [tkN, if_neg e, if_neg hk4]
        by_cases h2 : isLet (sgN m tb (stN m tb k)) = true
        · rw [if_pos h2] at h ⊢
          rw [wdK] at h
          rw [wdN]
          split at h
          · rename_i hL
            exfalso
            have hw0 := word_ne (m := m) (tb := tb) hL (wd_pos hs h2) (fun j hj => wd_in hj)
            cases hkw : kwO (wVal m tb (stN m tb k) (wdL m tb (stN m tb k))) with
            | none => rw [hkw] at h; exact absurd h (by decide)
            | some x =>
              have := kw_lt hkw hw0
              rw [hkw] at h
              have q : x = 42 := h
              omega
          · rename_i hL
            rw [if_neg hL]
        · rw [if_neg h2] at h ⊢
          by_cases h3 : isDig (sgN m tb (stN m tb k)) = true
          · rw [if_pos h3] at h ⊢
            rw [nmK] at h
            rw [nmN]
            split at h
            · exact absurd h (by decide)
            · rename_i hL
              rw [if_neg hL]
          · rw [if_neg h3] at h ⊢
            rw [syK] at h
            rw [syN]
            split at h
            · exact absurd h (by decide)
            · rename_i q1
              rw [if_neg q1]
              split at h
              · exact absurd h (by decide)
              · rename_i q2
                rw [if_neg q2, if_pos h]
  · omega
theorem cut_go {m : Nat} {tb : Nat → Int32} {k : Nat} (hm : m ≤ 2000) (hk : k ≤ tL m tb) (h1 : tkT m tb k ≠ 41) (h2 : tkT m tb k ≠ 42) : k + 1 ≤ tL m tb ∧ pN m tb (k + 1) = endP m tb (stN m tb k) := by
  have hlt := tkT_end k hk h1 h2
  have h4 := (tL_spec m tb).1
  have hk4 : ¬ k = 400 := by omega
  refine ⟨hlt, ?_⟩
  have hs := bl_le (m := m) (tb := tb) (s := pN m tb k) (pN_le m tb k)
  have hs' : stN m tb k ≤ 2000 := hs
  have hn := (tL_spec m tb).2.2 k hlt
  show (tkN m tb k (stN m tb k)).toNatClampNeg = _
  by_cases e : sgN m tb (stN m tb k) = -1
  · rw [tkN, if_pos e] at hn; exact absurd rfl hn
  rw [tkN, if_neg e, if_neg hk4] at hn ⊢
  have w1 := wd_le (m := m) (tb := tb) (s := stN m tb k)
  have w2 := nm_le (m := m) (tb := tb) (s := stN m tb k)
  rw [endP]
  by_cases q1 : isLet (sgN m tb (stN m tb k)) = true
  · rw [if_pos q1] at hn ⊢
    rw [if_pos q1]
    rw [wdN] at hn ⊢
    split at hn
    · rename_i hL
      rw [if_pos hL, nI_clamp (by omega)]
    · exact absurd rfl hn
  · rw [if_neg q1] at hn ⊢
    rw [if_neg q1]
    by_cases q2 : isDig (sgN m tb (stN m tb k)) = true
    · rw [if_pos q2] at hn ⊢
      rw [if_pos q2]
      rw [nmN] at hn ⊢
      split at hn
      · rename_i hL
        rw [if_pos hL, nI_clamp (by omega)]
      · exact absurd rfl hn
    · rw [if_neg q2] at hn ⊢
      rw [if_neg q2]
      rw [syN] at hn ⊢
      by_cases q3 : sgN m tb (stN m tb k + 1) = 61 ∧ sgN m tb (stN m tb k) = 60
      · rw [if_pos q3, if_pos ⟨Or.inl q3.2, q3.1⟩, nI_clamp (by omega)]
      · rw [if_neg q3] at hn ⊢
        by_cases q4 : sgN m tb (stN m tb k + 1) = 61 ∧ sgN m tb (stN m tb k) = 62
        · rw [if_pos q4, if_pos ⟨Or.inr q4.2, q4.1⟩, nI_clamp (by omega)]
        · rw [if_neg q4] at hn ⊢
          rw [if_neg (show ¬ ((sgN m tb (stN m tb k) = 60 ∨ sgN m tb (stN m tb k) = 62) ∧ sgN m tb (stN m tb k + 1) = 61) from fun z => z.1.elim (fun a => q3 ⟨z.2, a⟩) (fun a => q4 ⟨z.2, a⟩))]
          split at hn
          · exact absurd rfl hn
          · rename_i q5
            rw [if_neg q5, nI_clamp (by omega)]
/-- what the cut tokens are, the first k -/
def CutI (m : Nat) (tb kd fr me : Nat → Int32) (va : Nat → Int64) (k : Nat) : Prop := ∀ i, i < k → kd i = km (tkT m tb i) ∧ fr i = nI (stN m tb i) ∧ me i = 0 ∧ (tkT m tb i = 39 ∨ tkT m tb i = 40 → va i = tkV m tb i (stN m tb i))
theorem tkV_M {m : Nat} {tb : Nat → Int32} {k : Nat} (h : tkT m tb k = 39 ∨ tkT m tb k = 40) : tkM m tb (stN m tb k) = tkT m tb k ∧ tkVM m tb (stN m tb k) = tkV m tb k (stN m tb k) := by
  have hk4 : ¬ k = 400 := by
    intro e
    subst e
    unfold tkT tkK at h
    split at h
    · omega
    · rw [if_pos rfl] at h; omega
  have h9 := tkT_M (m := m) (tb := tb) hk4
  refine ⟨h9.symm, ?_⟩
  rw [h9, tkM] at h
  have e : ¬ sgN m tb (stN m tb k) = -1 := fun e => by rw [if_pos e] at h; omega
  rw [if_neg e] at h
  rw [tkVM, tkV, if_neg e, if_neg hk4]
  by_cases q1 : isLet (sgN m tb (stN m tb k)) = true
  · rw [if_pos q1, if_pos q1]
  · rw [if_neg q1] at h
    rw [if_neg q1, if_neg q1]
    by_cases q2 : isDig (sgN m tb (stN m tb k)) = true
    · rw [if_pos q2]
    · rw [if_neg q2] at h
      exact absurd h (not_or.mpr (sy_out _ _))
theorem CutI.step {m : Nat} {tb kd fr me : Nat → Int32} {va va2 : Nat → Int64} {k : Nat} {x : Int32} (h : CutI m tb kd fr me va k) (hx : x = km (tkT m tb k)) (h1 : ∀ j, j ≠ k → va2 j = va j) (h2 : tkM m tb (stN m tb k) = 39 ∨ tkM m tb (stN m tb k) = 40 → va2 k = tkVM m tb (stN m tb k)) {kd2 : Nat → Int32} (h3 : ∀ j, j ≠ k → kd2 j = kd j) (h4 : kd2 k = x) : CutI m tb kd2 (upd fr k (nI (stN m tb k))) (upd me k 0) va2 (k + 1) := by
  intro i hi
  rcases Nat.lt_or_ge i k with c | c
  · obtain ⟨a1, a2, a3, a4⟩ := h i c
    refine ⟨by rw [h3 i (by omega), a1], by rw [upd_n (by omega), a2], by rw [upd_n (by omega), a3], fun q => by rw [h1 i (by omega), a4 q]⟩
  · have : i = k := by omega
    subst this
    refine ⟨by rw [h4, hx], upd_s, upd_s, fun q => ?_⟩
    obtain ⟨b1, b2⟩ := tkV_M q
    rw [h2 (by rw [b1]; exact q), b2]

