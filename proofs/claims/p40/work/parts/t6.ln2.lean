/-! The laws' lines. -/
def onS (Z : GZ) (k : Nat) : List ST := stL (toN Z) 2 (oneQ Z k)
def twS (Z : GZ) (k : Nat) : List ST := stL (toN Z) 2 (twoQ Z k)
def teS (Z : GZ) (k : Nat) : List ST := if hasT Z k = true then stL (toN Z) 4 (tesQ Z k) else []
def orS (Z : GZ) (k : Nat) : List ST := if toK Z k = 0 then onS Z k ++ twS Z k else if toK Z k = 1 then [] else onS Z k
def o1S (Z : GZ) (k : Nat) : Nat := if toK Z k = 1 then 0 else (onS Z k).length
def lwS (Z : GZ) (k : Nat) : List ST := orS Z k ++ teS Z k
def lsR (Z : GZ) : Nat → List ST
  | 0 => []
  | k + 1 => lsR Z k ++ lwS Z k
theorem lwS_len (Z : GZ) (k : Nat) : (lwS Z k).length ≤ 21 ∧ o1S Z k ≤ 3 ∧ (orS Z k).length ≤ 6 := by
  have h1 := stL_len (toN Z) 2 (oneQ Z k)
  have h2 := stL_len (toN Z) 2 (twoQ Z k)
  have h3 := stL_len (toN Z) 4 (tesQ Z k)
  have e2 : 2 ^ 2 = 4 := rfl
  have e4 : 2 ^ 4 = 16 := rfl
  rw [e2] at h1 h2
  rw [e4] at h3
  have ht : (teS Z k).length ≤ 15 := by
    unfold teS
    split
    · omega
    · exact Nat.zero_le _
  have ho : (orS Z k).length ≤ 6 := by
    unfold orS onS twS
    split
    · rw [List.length_append]; omega
    · split
      · exact Nat.zero_le _
      · omega
  refine ⟨by rw [lwS, List.length_append]; omega, ?_, ho⟩
  unfold o1S onS
  split <;> omega
theorem lsR_len (Z : GZ) : ∀ k, (lsR Z k).length ≤ 21 * k
  | 0 => Nat.le_refl _
  | k + 1 => by
    have h1 := lsR_len Z k
    have h2 := (lwS_len Z k).1
    rw [lsR, List.length_append]
    omega
/-- steps lie from s on -/
def LdS (o g j : Nat → Int32) : Nat → List ST → Prop
  | _, [] => True
  | s, t :: l => o s = t.1 ∧ g s = t.2.1 ∧ j s = t.2.2 ∧ LdS o g j (s + 1) l
theorem LdS.congr {o g j o' g' j' : Nat → Int32} : ∀ {l : List ST} {s : Nat}, LdS o g j s l → (∀ i, i < s + l.length → o' i = o i ∧ g' i = g i ∧ j' i = j i) → LdS o' g' j' s l
  | [], _, _, _ => trivial
  | t :: l, s, h, e => by
    have e0 := e s (by simp only [List.length_cons]; omega)
    exact ⟨e0.1.trans h.1, e0.2.1.trans h.2.1, e0.2.2.trans h.2.2.1, LdS.congr h.2.2.2 (fun i hi => e i (by simp only [List.length_cons]; omega))⟩
theorem LdS.app {o g j : Nat → Int32} {m : List ST} : ∀ {l : List ST} {s : Nat}, LdS o g j s (l ++ m) → LdS o g j s l ∧ LdS o g j (s + l.length) m
  | [], _, h => ⟨trivial, h⟩
  | t :: l, s, h => by
    obtain ⟨h1, h2⟩ := LdS.app (l := l) h.2.2.2
    have e : s + (t :: l).length = s + 1 + l.length := by simp only [List.length_cons]; omega
    rw [e]
    exact ⟨⟨h.1, h.2.1, h.2.2.1, h1⟩, h2⟩
theorem puts_lay : ∀ (l : List ST) (i s : Nat) (b : Bool) (e a : Int32) (o g j : Nat → Int32), s + l.length ≤ 400 → ∃ o' g' j', puts l (i, b, e, a, s, o, g, j) = (i, b, e, a, s + l.length, o', g', j') ∧ (∀ m, m < s → o' m = o m ∧ g' m = g m ∧ j' m = j m) ∧ LdS o' g' j' s l
  | [], i, s, b, e, a, o, g, j, _ => ⟨o, g, j, rfl, fun _ _ => ⟨rfl, rfl, rfl⟩, trivial⟩
  | t :: l, i, s, b, e, a, o, g, j, hs => by
    simp only [List.length_cons] at hs
    have h4 : s < 400 := by omega
    obtain ⟨o', g', j', h1, h2, h3⟩ := puts_lay l i (s + 1) b e a (upd o s t.1) (upd g s t.2.1) (upd j s t.2.2) (by omega)
    have e0 : puts (t :: l) (i, b, e, a, s, o, g, j) = puts l (i, b, e, a, s + 1, upd o s t.1, upd g s t.2.1, upd j s t.2.2) := by
      show puts l (i, b, e, a, inc s 400, updC o s 400 t.1, updC g s 400 t.2.1, updC j s 400 t.2.2) = _
      rw [inc, updC, updC, updC, if_pos h4, if_pos h4, if_pos h4, if_pos h4]
    refine ⟨o', g', j', ?_, fun m hm => ?_, ?_⟩
    · rw [e0, h1]
      simp only [List.length_cons]
      rw [show s + 1 + l.length = s + (l.length + 1) from by omega]
    · obtain ⟨x1, x2, x3⟩ := h2 m (by omega)
      rw [x1, x2, x3]
      have hne : ¬ m = s := by omega
      exact ⟨by simp [upd, hne], by simp [upd, hne], by simp [upd, hne]⟩
    · obtain ⟨x1, x2, x3⟩ := h2 s (by omega)
      exact ⟨by rw [x1]; simp [upd], by rw [x2]; simp [upd], by rw [x3]; simp [upd], h3⟩
theorem ps_S {q : PS} {L : List ST} {K : Nat} (h0 : psS q = 0) (h : L.length ≤ 400) : psS (Sx q L K) = L.length := by
  obtain ⟨i, b, e, a, s, o, g, j⟩ := q
  have hs : s = 0 := h0
  subst hs
  obtain ⟨o', g', j', h1, -, -⟩ := puts_lay L (i + K) 0 b e a o g j (by omega)
  have e1 : Sx (i, b, e, a, 0, o, g, j) L K = puts L (i + K, b, e, a, 0, o, g, j) := rfl
  rw [e1, h1, Nat.zero_add]
  rfl
theorem ord_ok {tk : Nat → Nat} {sf : Nat → Int32} {vf nm : Nat → Int64} {Z : GZ} {q : PS} {L : List ST} {K u : Nat} (hN : NmOk nm (toN Z)) (hb : brkC q = false) (h0 : psS q = 0) (hl : L.length ≤ 300) (hA : AtT tk vf (q.1 + K) (orI Z u)) (hn : NoOp (tk (q.1 + K + (orI Z u).length))) : ordC tk sf vf nm (toN Z) (Sx q L K) = (Sx q (L ++ orS Z u) (K + (orI Z u).length), nI (toK Z u), nI (toV Z u), nI L.length, nI (L.length + o1S Z u)) := by
  have hm := toN_in Z
  have hv := toV_lt Z u
  obtain ⟨w1, w2, w3⟩ := wf_one Z u
  have hl1 := stL_len (toN Z) 2 (oneQ Z u)
  have hl2 := stL_len (toN Z) 2 (twoQ Z u)
  have e2 : 2 ^ 2 = 4 := rfl
  rw [e2] at hl1 hl2
  have H1 := ps_val (tk := tk) (sf := sf) (vf := vf) hN hm.1 2 (oneQ Z u) 8 0 rfl w1 (by omega) (by omega)
  have H2 := ps_val (tk := tk) (sf := sf) (vf := vf) hN hm.1 2 (twoQ Z u) 8 0 rfl w2 (by omega) (by omega)
  have hk : toK Z u = 0 ∨ toK Z u = 1 ∨ toK Z u = 2 := by
    unfold toK
    split
    · exact Or.inl rfl
    · split
      · exact Or.inr (Or.inr rfl)
      · exact Or.inr (Or.inl rfl)
  rcases hk with k0 | k0 | k0
  · have eI : orI Z u = (4, 0) :: (39, hV (toV Z u)) :: (5, 0) :: (tkL (toN Z) 2 (oneQ Z u) ++ (6, 0) :: tkL (toN Z) 2 (twoQ Z u)) := by rw [orI, if_pos k0]
    have eS : orS Z u = onS Z u ++ twS Z u := by rw [orS, if_pos k0]
    have eo : o1S Z u = (onS Z u).length := by rw [o1S, if_neg (by omega)]
    rw [eI] at hA hn
    obtain ⟨a1, -, a2, a3, a4, -, a5⟩ := hA
    obtain ⟨b1, b2, -, b3⟩ := a5.app
    have c1 : takeC tk sf 4 (Sx q L K) = Sx q L (K + 1) := sx_take hb a1
    have c2 : knwC tk sf vf nm (toN Z) (Sx q L (K + 1)) = Sx q L (K + 1 + 1) := kn_ok hb hN hv a2 a3
    have c3 : takeC tk sf 5 (Sx q L (K + 1 + 1)) = Sx q L (K + 1 + 1 + 1) := sx_take hb a4
    have c4 : sumC tk sf (valC tk sf vf nm (toN Z) 8 0) (Sx q L (K + 1 + 1 + 1)) = Sx q (L ++ onS Z u) (K + 1 + 1 + 1 + (tkL (toN Z) 2 (oneQ Z u)).length) := H1.at hb b1 (by rw [show q.1 + (K + 1 + 1 + 1) + (tkL (toN Z) 2 (oneQ Z u)).length = q.1 + K + 1 + 1 + 1 + (tkL (toN Z) 2 (oneQ Z u)).length from rfl, b2]; exact ⟨by decide, by decide, by decide, by decide⟩)
    have c5 : takeC tk sf 6 (Sx q (L ++ onS Z u) (K + 1 + 1 + 1 + (tkL (toN Z) 2 (oneQ Z u)).length)) = Sx q (L ++ onS Z u) (K + 1 + 1 + 1 + (tkL (toN Z) 2 (oneQ Z u)).length + 1) := sx_take hb (by rw [← Nat.add_assoc]; exact b2)
    have hn2 : NoOp (tk (q.1 + (K + 1 + 1 + 1 + (tkL (toN Z) 2 (oneQ Z u)).length + 1) + (tkL (toN Z) 2 (twoQ Z u)).length)) := by
      refine Eq.subst (motive := fun x => NoOp (tk x)) ?_ hn
      simp only [List.length_cons, List.length_append]
      omega
    have b3' : AtT tk vf (q.1 + (K + 1 + 1 + 1 + (tkL (toN Z) 2 (oneQ Z u)).length + 1)) (tkL (toN Z) 2 (twoQ Z u)) := by
      refine Eq.subst (motive := fun x => AtT tk vf x _) ?_ b3
      omega
    have c6 : sumC tk sf (valC tk sf vf nm (toN Z) 8 0) (Sx q (L ++ onS Z u) (K + 1 + 1 + 1 + (tkL (toN Z) 2 (oneQ Z u)).length + 1)) = Sx q ((L ++ onS Z u) ++ twS Z u) (K + 1 + 1 + 1 + (tkL (toN Z) 2 (oneQ Z u)).length + 1 + (tkL (toN Z) 2 (twoQ Z u)).length) := H2.at hb b3' hn2
    have c7 : hseC tk vf nm (toN Z) (Sx q L (K + 1)) = nI (toV Z u) := hs_ok hb hN hv a2 a3
    rw [ordC, if_pos (by rw [sx_now hb]; exact a1), c1, c2, c3, c4, c5, c6, c7, ps_S h0 (by omega), ps_S h0 (by rw [List.length_append, onS]; omega), k0, eS, eo, eI, List.append_assoc, List.length_append]
    refine congrArg (fun x => (Sx q (L ++ (onS Z u ++ twS Z u)) x, _, _, _, _)) ?_
    simp only [List.length_cons, List.length_append]
    omega
  · have eI : orI Z u = [(7, 0), (39, hV (toV Z u))] := by rw [orI, if_neg (by omega), if_pos k0]
    have eS : orS Z u = [] := by rw [orS, if_neg (by omega), if_pos k0]
    have eo : o1S Z u = 0 := by rw [o1S, if_pos k0]
    rw [eI] at hA hn
    obtain ⟨a1, -, a2, a3, -⟩ := hA
    have c1 : takeC tk sf 7 (Sx q L K) = Sx q L (K + 1) := sx_take hb a1
    have c2 : knwC tk sf vf nm (toN Z) (Sx q L (K + 1)) = Sx q L (K + 1 + 1) := kn_ok hb hN hv a2 a3
    have c7 : hseC tk vf nm (toN Z) (Sx q L (K + 1)) = nI (toV Z u) := hs_ok hb hN hv a2 a3
    rw [ordC, if_neg (by rw [sx_now hb, a1]; decide), if_pos (by rw [sx_now hb]; exact a1), c1, c2, c7, ps_S h0 (by omega), k0, eS, eo, eI, List.append_nil]
    rfl
  · have eI : orI Z u = (8, 0) :: (39, hV (toV Z u)) :: (9, 0) :: tkL (toN Z) 2 (oneQ Z u) := by rw [orI, if_neg (by omega), if_neg (by omega)]
    have eS : orS Z u = onS Z u := by rw [orS, if_neg (by omega), if_neg (by omega)]
    have eo : o1S Z u = (onS Z u).length := by rw [o1S, if_neg (by omega)]
    rw [eI] at hA hn
    obtain ⟨a1, -, a2, a3, a4, -, b1⟩ := hA
    have c1 : takeC tk sf 8 (Sx q L K) = Sx q L (K + 1) := sx_take hb a1
    have c2 : knwC tk sf vf nm (toN Z) (Sx q L (K + 1)) = Sx q L (K + 1 + 1) := kn_ok hb hN hv a2 a3
    have c3 : takeC tk sf 9 (Sx q L (K + 1 + 1)) = Sx q L (K + 1 + 1 + 1) := sx_take hb a4
    have hn2 : NoOp (tk (q.1 + (K + 1 + 1 + 1) + (tkL (toN Z) 2 (oneQ Z u)).length)) := by
      refine Eq.subst (motive := fun x => NoOp (tk x)) ?_ hn
      simp only [List.length_cons]
      omega
    have c4 : sumC tk sf (valC tk sf vf nm (toN Z) 8 0) (Sx q L (K + 1 + 1 + 1)) = Sx q (L ++ onS Z u) (K + 1 + 1 + 1 + (tkL (toN Z) 2 (oneQ Z u)).length) := H1.at hb b1 hn2
    have c7 : hseC tk vf nm (toN Z) (Sx q L (K + 1)) = nI (toV Z u) := hs_ok hb hN hv a2 a3
    rw [ordC, if_neg (by rw [sx_now hb, a1]; decide), if_neg (by rw [sx_now hb, a1]; decide), c1, c2, c3, c4, c7, ps_S h0 (by omega), ps_S h0 (by rw [List.length_append, onS]; omega), k0, eS, eo, eI, List.length_append]
    refine congrArg (fun x => (Sx q (L ++ onS Z u) x, _, _, _, _)) ?_
    simp only [List.length_cons]
    omega
theorem whn_ok {tk : Nat → Nat} {sf : Nat → Int32} {vf nm : Nat → Int64} {Z : GZ} {q : PS} {L : List ST} {K u : Nat} (hN : NmOk nm (toN Z)) (hb : brkC q = false) (hA : AtT tk vf (q.1 + K) (whI Z u ++ [(28, 0)])) : lawW tk sf vf nm (toN Z) (Sx q L K) = Sx q (L ++ teS Z u) (K + (whI Z u).length) ∧ tk (q.1 + (K + (whI Z u).length)) = 28 ∧ NoOp (tk (q.1 + K)) := by
  have hm := toN_in Z
  obtain ⟨a1, a2, -⟩ := hA.app
  have a2' : tk (q.1 + (K + (whI Z u).length)) = 28 := by rw [← Nat.add_assoc]; exact a2
  refine ⟨?_, a2', ?_⟩
  · unfold whI teS at *
    by_cases c : hasT Z u = true
    · rw [if_pos c] at a1 a2'
      rw [if_pos c, if_pos c]
      obtain ⟨b1, -, b2⟩ := a1
      have H3 := ps_tes (tk := tk) (sf := sf) (vf := vf) hN hm.1 4 (tesQ Z u) 8 0 rfl (wf_one Z u).2.2 (by omega) (by omega)
      have e : q.1 + (K + 1) + (tkL (toN Z) 4 (tesQ Z u)).length = q.1 + (K + ((10, (0 : Int64)) :: tkL (toN Z) 4 (tesQ Z u)).length) := by
        simp only [List.length_cons]
        omega
      rw [lawW, if_pos (by rw [sx_now hb]; exact b1), sx_take hb b1, H3.at hb b2 (by rw [e, a2']; exact ⟨⟨by decide, by decide, by decide, by decide⟩, by decide, by decide⟩)]
      refine congrArg _ ?_
      simp only [List.length_cons]
      omega
    · rw [if_neg c] at a2'
      rw [if_neg c, if_neg c, List.append_nil]
      rw [lawW, if_neg (by rw [sx_now hb]; intro h9; rw [show q.1 + (K + ([] : List (Nat × Int64)).length) = q.1 + K from rfl] at a2'; rw [a2'] at h9; exact absurd h9 (by decide))]
      rfl
  · unfold whI at hA
    split at hA
    · have h9 : tk (q.1 + K) = 10 := hA.1
      rw [h9]
      exact ⟨by decide, by decide, by decide, by decide⟩
    · have h9 : tk (q.1 + K) = 28 := hA.1
      rw [h9]
      exact ⟨by decide, by decide, by decide, by decide⟩
/-- a law's line read -/
theorem line_lw {tk : Nat → Nat} {sf : Nat → Int32} {vf nm : Nat → Int64} {Z : GZ} {q : PS} {L : List ST} {K u : Nat} {bP bH l0 l1 l2 l3 l4 l5 : Nat → Int32} (hN : NmOk nm (toN Z)) (hu : u < 16) (hb : brkC q = false) (h0 : psS q = 0) (hl : L.length ≤ 300) (hA : AtT tk vf (q.1 + K) (lwI Z u)) : lineC tk sf vf (Sx q L K, toN Z, nm, bP, bH, u, l0, l1, l2, l3, l4, l5) = (Sx q (L ++ lwS Z u) (K + (lwI Z u).length), toN Z, nm, bP, bH, u + 1, updC l0 u 16 (nI (toK Z u)), updC l1 u 16 (nI (toV Z u)), updC l2 u 16 (nI L.length), updC l3 u 16 (nI (L.length + o1S Z u)), updC l4 u 16 (nI (L.length + (orS Z u).length)), updC l5 u 16 (nI (L.length + (lwS Z u).length))) := by
  obtain ⟨l21, l3x, l6⟩ := lwS_len Z u
  obtain ⟨a1, -, a2⟩ := hA
  obtain ⟨b1, b2⟩ := a2.app
  have b2' : AtT tk vf (q.1 + (K + 1 + (orI Z u).length)) (whI Z u ++ [(28, 0)]) := by
    refine Eq.subst (motive := fun x => AtT tk vf x _) ?_ b2
    omega
  obtain ⟨w1, w2, w3⟩ := whn_ok (sf := sf) (L := L ++ orS Z u) hN hb b2'
  have hn : NoOp (tk (q.1 + (K + 1) + (orI Z u).length)) := by
    rw [Nat.add_assoc]
    exact w3
  have eO := ord_ok (sf := sf) (L := L) (K := K + 1) hN hb h0 hl b1 hn
  have e3 : lawT tk sf u (Sx q L K) = Sx q L (K + 1) := by rw [lawT, if_pos hu, sx_take hb a1]
  have eC : lawC tk sf vf nm (toN Z) u (Sx q L K) = (Sx q ((L ++ orS Z u) ++ teS Z u) (K + 1 + (orI Z u).length + (whI Z u).length), nI (toK Z u), nI (toV Z u), nI L.length, nI (L.length + o1S Z u), nI (L.length + (orS Z u).length), nI (L.length + (lwS Z u).length)) := by
    rw [lawC, e3, eO, lawE]
    dsimp only
    rw [w1, ps_S h0 (by rw [List.length_append]; omega), ps_S h0 (by rw [List.append_assoc, List.length_append]; show L.length + (lwS Z u).length ≤ 400; omega), List.length_append, List.append_assoc, List.length_append]
    rfl
  have e9 : takeC tk sf 28 (Sx q ((L ++ orS Z u) ++ teS Z u) (K + 1 + (orI Z u).length + (whI Z u).length)) = Sx q (L ++ lwS Z u) (K + (lwI Z u).length) := by
    rw [sx_take hb w2, List.append_assoc]
    show Sx q (L ++ lwS Z u) _ = _
    refine congrArg _ ?_
    unfold lwI
    simp only [List.length_cons, List.length_append, List.length_nil]
    omega
  unfold lineC
  dsimp only
  rw [if_neg (by rw [sx_now hb, a1]; decide), eC]
  dsimp only
  rw [e9, inc, if_pos hu]
theorem up16 {f : Nat → Int32} {k j : Nat} {x : Int32} (hj : j < 16) : updC f j 16 x k = if k = j then x else f k := by
  rw [updC, if_pos hj]
  by_cases e : k = j
  · rw [if_pos e, e]; simp [upd]
  · rw [if_neg e]; simp [upd, e]
theorem up12 {f : Nat → Int32} {k j : Nat} {x : Int32} (hj : j < 12) : updC f j 12 x k = if k = j then x else f k := by
  rw [updC, if_pos hj]
  by_cases e : k = j
  · rw [if_pos e, e]; simp [upd]
  · rw [if_neg e]; simp [upd, e]
theorem up12L {f : Nat → Int64} {k j : Nat} {x : Int64} (hj : j < 12) : updCL f j 12 x k = if k = j then x else f k := by
  rw [updCL, if_pos hj]
  by_cases e : k = j
  · rw [if_pos e, e]; simp [vp_updL]
  · rw [if_neg e]; simp [vp_updL, e]
theorem rd_hs {tk : Nat → Nat} {sf : Nat → Int32} {vf : Nat → Int64} {Z : GZ} {q : PS} {nm : Nat → Int64} {bP bH l0 l1 l2 l3 l4 l5 : Nat → Int32} (hb : brkC q = false) (h1 : q.1 = 0) (hA : AtT tk vf 0 (hsR Z (toN Z))) : ∀ k, k ≤ toN Z → ∃ nm' bP' bH', rdN tk sf vf (q, 0, nm, bP, bH, 0, l0, l1, l2, l3, l4, l5) k = (Sx q [] (7 * k), k, nm', bP', bH', 0, l0, l1, l2, l3, l4, l5) ∧ ∀ i, i < k → nm' i = hV i ∧ bP' i = nI (toP Z i) ∧ bH' i = nI (toH Z i)
  | 0, _ => ⟨nm, bP, bH, rfl, fun _ h => absurd h (Nat.not_lt_zero _)⟩
  | k + 1, hk => by
    have hN := toN_in Z
    obtain ⟨nm', bP', bH', e, hh⟩ := rd_hs hb h1 hA k (by omega)
    refine ⟨updCL nm' k 12 (hV k), updC bP' k 12 (nI (toP Z k)), updC bH' k 12 (nI (toH Z k)), ?_, ?_⟩
    · rw [rdN, e, line_hs hb (by omega) (fun i hi => (hh i hi).1) (fun i hi => (hh i hi).2.1) (by rw [h1, Nat.zero_add]; exact at_hs hA k (by omega))]
      rfl
    · intro i hi
      rw [up12L (by omega), up12 (by omega), up12 (by omega)]
      by_cases c : i = k
      · rw [if_pos c, if_pos c, if_pos c, c]
        exact ⟨rfl, rfl, rfl⟩
      · rw [if_neg c, if_neg c, if_neg c]
        exact hh i (by omega)
def e0S (Z : GZ) (k : Nat) : Nat := (lsR Z k).length
theorem rd_lw {tk : Nat → Nat} {sf : Nat → Int32} {vf nm : Nat → Int64} {Z : GZ} {st : RS} {q : PS} {bP bH l0 l1 l2 l3 l4 l5 : Nat → Int32} (hN : NmOk nm (toN Z)) (hb : brkC q = false) (h1 : q.1 = 0) (h0 : psS q = 0) (hA : AtT tk vf 0 (lwR Z (toM Z))) (h9 : rdN tk sf vf st (toN Z) = (Sx q [] (7 * toN Z), toN Z, nm, bP, bH, 0, l0, l1, l2, l3, l4, l5)) : ∀ k, k ≤ toM Z → ∃ l0' l1' l2' l3' l4' l5', rdN tk sf vf st (toN Z + k) = (Sx q (lsR Z k) (lwR Z k).length, toN Z, nm, bP, bH, k, l0', l1', l2', l3', l4', l5') ∧ ∀ i, i < k → l0' i = nI (toK Z i) ∧ l1' i = nI (toV Z i) ∧ l2' i = nI (e0S Z i) ∧ l3' i = nI (e0S Z i + o1S Z i) ∧ l4' i = nI (e0S Z i + (orS Z i).length) ∧ l5' i = nI (e0S Z i + (lwS Z i).length)
  | 0, _ => ⟨l0, l1, l2, l3, l4, l5, by rw [Nat.add_zero, h9, lwR, hsR_len]; rfl, fun _ h => absurd h (Nat.not_lt_zero _)⟩
  | k + 1, hk => by
    have hM := toM_in Z
    have hls := lsR_len Z k
    obtain ⟨l0', l1', l2', l3', l4', l5', e, hh⟩ := rd_lw hN hb h1 h0 hA h9 k (by omega)
    refine ⟨updC l0' k 16 (nI (toK Z k)), updC l1' k 16 (nI (toV Z k)), updC l2' k 16 (nI (lsR Z k).length), updC l3' k 16 (nI ((lsR Z k).length + o1S Z k)), updC l4' k 16 (nI ((lsR Z k).length + (orS Z k).length)), updC l5' k 16 (nI ((lsR Z k).length + (lwS Z k).length)), ?_, ?_⟩
    · rw [← Nat.add_assoc, rdN, e, line_lw hN (by omega) hb h0 (by omega) (by rw [h1, Nat.zero_add]; exact (at_lw hA).2 k (by omega)), lwR, List.length_append]
      rfl
    · intro i hi
      rw [up16 (by omega), up16 (by omega), up16 (by omega), up16 (by omega), up16 (by omega), up16 (by omega)]
      by_cases c : i = k
      · rw [if_pos c, if_pos c, if_pos c, if_pos c, if_pos c, if_pos c, c]
        exact ⟨rfl, rfl, rfl, rfl, rfl, rfl⟩
      · rw [if_neg c, if_neg c, if_neg c, if_neg c, if_neg c, if_neg c]
        exact hh i (by omega)
theorem lds_at {o g j : Nat → Int32} {Z : GZ} : ∀ {n : Nat}, LdS o g j 0 (lsR Z n) → ∀ k, k < n → LdS o g j (e0S Z k) (lwS Z k)
  | 0, _, _, hk => absurd hk (Nat.not_lt_zero _)
  | n + 1, h, k, hk => by
    obtain ⟨h1, h2⟩ := LdS.app (l := lsR Z n) h
    rw [Nat.zero_add] at h2
    rcases Nat.eq_or_lt_of_le (Nat.le_of_lt_succ hk) with e | e
    · rw [e]; exact h2
    · exact lds_at h1 k e
/-- the told text, read -/
theorem rd_told {Z : GZ} {tk : Nat → Nat} {sf : Nat → Int32} {vf : Nat → Int64} {nmd : Nat → Int64} {opd f1d f2d bPd bHd l0d l1d l2d l3d l4d l5d : Nat → Int32} (hA : AtT tk vf 0 (lwR Z (toM Z))) (hE : tk (lwR Z (toM Z)).length = 41) : ∃ o2 g2 j2 bP2 bH2 l0' l1' l2' l3' l4' l5' nm2, readR tk sf vf 400 ((0, false, 0, -1, 0, opd, f1d, f2d), 0, nmd, bPd, bHd, 0, l0d, l1d, l2d, l3d, l4d, l5d) = (((lwR Z (toM Z)).length, false, 0, -1, (lsR Z (toM Z)).length, o2, g2, j2), toN Z, nm2, bP2, bH2, toM Z, l0', l1', l2', l3', l4', l5') ∧ (∀ i, i < toN Z → bP2 i = nI (toP Z i) ∧ bH2 i = nI (toH Z i)) ∧ (∀ i, i < toM Z → l0' i = nI (toK Z i) ∧ l1' i = nI (toV Z i) ∧ l2' i = nI (e0S Z i) ∧ l3' i = nI (e0S Z i + o1S Z i) ∧ l4' i = nI (e0S Z i + (orS Z i).length) ∧ l5' i = nI (e0S Z i + (lwS Z i).length)) ∧ LdS o2 g2 j2 0 (lsR Z (toM Z)) := by
  obtain ⟨st, hst⟩ : ∃ st : RS, st = ((0, false, 0, -1, 0, opd, f1d, f2d), 0, nmd, bPd, bHd, 0, l0d, l1d, l2d, l3d, l4d, l5d) := ⟨_, rfl⟩
  obtain ⟨q, hq⟩ : ∃ q : PS, q = (0, false, 0, -1, 0, opd, f1d, f2d) := ⟨_, rfl⟩
  have hb : brkC q = false := by rw [hq]; rfl
  have h1 : q.1 = 0 := by rw [hq]
  have h0 : psS q = 0 := by rw [hq]; rfl
  have hN := toN_in Z
  have hM := toM_in Z
  have hls := lsR_len Z (toM Z)
  rw [← hst]
  rw [← hq] at hst
  have hH := rd_hs (sf := sf) (nm := nmd) (bP := bPd) (bH := bHd) (l0 := l0d) (l1 := l1d) (l2 := l2d) (l3 := l3d) (l4 := l4d) (l5 := l5d) hb h1 (at_lw hA).1
  rw [← hst] at hH
  obtain ⟨nm', bP', bH', eH, hh⟩ := hH (toN Z) (Nat.le_refl _)
  have nmk : NmOk nm' (toN Z) := ⟨hN.2, fun i hi => (hh i hi).1⟩
  have hW := rd_lw nmk hb h1 h0 hA eH
  obtain ⟨l0', l1', l2', l3', l4', l5', eW, hw⟩ := hW (toM Z) (Nat.le_refl _)
  have hrd : readR tk sf vf 400 st = rdN tk sf vf st (toN Z + toM Z) := by
    refine readR_is (toN Z + toM Z) (by omega) (fun j hj => ?_) ?_
    · rcases Nat.lt_or_ge j (toN Z) with c | c
      · obtain ⟨_, _, _, e, -⟩ := hH j (by omega)
        have a := (at_hs (at_lw hA).1 j c).1
        rw [e]
        refine ⟨?_, by rw [sx_brk]; exact hb⟩
        rw [sx_now hb, h1, Nat.zero_add, a]
        decide
      · obtain ⟨k, rfl⟩ : ∃ k, j = toN Z + k := ⟨j - toN Z, by omega⟩
        obtain ⟨_, _, _, _, _, _, e, -⟩ := hW k (by omega)
        have a := ((at_lw hA).2 k (by omega)).1
        rw [e]
        refine ⟨?_, by rw [sx_brk]; exact hb⟩
        rw [sx_now hb, h1, Nat.zero_add, a]
        decide
    · rw [eW, sx_now hb, h1, Nat.zero_add, hE]
  obtain ⟨o', g', j', p1, -, p3⟩ := puts_lay (lsR Z (toM Z)) (0 + (lwR Z (toM Z)).length) 0 false 0 (-1) opd f1d f2d (by omega)
  have e8 : Sx q (lsR Z (toM Z)) (lwR Z (toM Z)).length = ((lwR Z (toM Z)).length, false, 0, -1, (lsR Z (toM Z)).length, o', g', j') := by
    rw [hq]
    show puts _ (0 + (lwR Z (toM Z)).length, false, 0, -1, 0, opd, f1d, f2d) = _
    rw [p1, Nat.zero_add, Nat.zero_add]
  refine ⟨o', g', j', bP', bH', l0', l1', l2', l3', l4', l5', nm', ?_, fun i hi => (hh i hi).2, hw, p3⟩
  rw [hrd, eW, e8]
