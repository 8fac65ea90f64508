/-! The parser over a row of tokens. -/
abbrev ST : Type := Int32 × Int32 × Int32
def puts : List ST → PS → PS
  | [], q => q
  | t :: l, q => puts l (stepC t.1 t.2.1 t.2.2 q)
def adv (k : Nat) : PS → PS
  | (i, b, r) => (i + k, b, r)
def Sx (q : PS) (L : List ST) (K : Nat) : PS := puts L (adv K q)
theorem puts_app : ∀ (l k : List ST) (q : PS), puts (l ++ k) q = puts k (puts l q)
  | [], _, _ => rfl
  | t :: l, k, q => puts_app l k _
theorem step_adv (x y z : Int32) (K : Nat) (q : PS) : stepC x y z (adv K q) = adv K (stepC x y z q) := by
  obtain ⟨i, b, e, a, s, o, g, j⟩ := q
  rfl
theorem puts_adv : ∀ (l : List ST) (K : Nat) (q : PS), puts l (adv K q) = adv K (puts l q)
  | [], _, _ => rfl
  | t :: l, K, q => by
    rw [puts, step_adv, puts_adv l]
    rfl
theorem puts_i : ∀ (l : List ST) (q : PS), (puts l q).1 = q.1 ∧ (puts l q).2.1 = q.2.1
  | [], _ => ⟨rfl, rfl⟩
  | t :: l, q => by
    have h := puts_i l (stepC t.1 t.2.1 t.2.2 q)
    obtain ⟨i, b, e, a, s, o, g, j⟩ := q
    exact h
theorem adv_adv (K J : Nat) (q : PS) : adv J (adv K q) = adv (K + J) q := by
  obtain ⟨i, b, r⟩ := q
  show (i + K + J, b, r) = (i + (K + J), b, r)
  rw [Nat.add_assoc]
theorem sx_0 (q : PS) : Sx q [] 0 = q := rfl
theorem sx_i (q : PS) (L : List ST) (K : Nat) : (Sx q L K).1 = q.1 + K := (puts_i L _).1
theorem brk_is (q : PS) : brkC q = q.2.1 := rfl
theorem sx_brk (q : PS) (L : List ST) (K : Nat) : brkC (Sx q L K) = brkC q := (puts_i L _).2
theorem sx_sx (q : PS) (L M : List ST) (K J : Nat) : Sx (Sx q L K) M J = Sx q (L ++ M) (K + J) := by
  unfold Sx
  rw [puts_app, ← puts_adv L, adv_adv]
theorem sx_step (q : PS) (L : List ST) (K : Nat) (x y z : Int32) : stepC x y z (Sx q L K) = Sx q (L ++ [(x, y, z)]) K := by
  unfold Sx
  rw [puts_app]
  rfl
theorem take_ok {tk : Nat → Nat} {sf : Nat → Int32} {q : PS} {k : Nat} (hb : brkC q = false) (h : tk q.1 = k) : takeC tk sf k q = Sx q [] 1 := by
  obtain ⟨i, b, e, a, r⟩ := q
  have hb2 : b = false := hb
  subst hb2
  show (if nw tk i false = k then _ else _) = _
  rw [nw_f, if_pos h]
  rfl
theorem now_ok {tk : Nat → Nat} {q : PS} (hb : brkC q = false) : nowC tk q = tk q.1 := by
  obtain ⟨i, b, e, a, r⟩ := q
  have hb2 : b = false := hb
  subst hb2
  exact nw_f
theorem val_ok {tk : Nat → Nat} {vf : Nat → Int64} {q : PS} {k : Nat} (hb : brkC q = false) (h : tk q.1 = k) : valT tk vf k q = vf q.1 := by
  obtain ⟨i, b, e, a, r⟩ := q
  have hb2 : b = false := hb
  subst hb2
  show (if nw tk i false = k then vf i else 0) = _
  rw [nw_f, if_pos h]
theorem sx_take {tk : Nat → Nat} {sf : Nat → Int32} {q : PS} {L : List ST} {K k : Nat} (hb : brkC q = false) (h : tk (q.1 + K) = k) : takeC tk sf k (Sx q L K) = Sx q L (K + 1) := by
  rw [take_ok (by rw [sx_brk]; exact hb) (by rw [sx_i]; exact h), sx_sx, List.append_nil]
theorem sx_now {tk : Nat → Nat} {q : PS} {L : List ST} {K : Nat} (hb : brkC q = false) : nowC tk (Sx q L K) = tk (q.1 + K) := by
  rw [now_ok (by rw [sx_brk]; exact hb), sx_i]
theorem deep_ok {tk : Nat → Nat} {sf : Nat → Int32} {q : PS} {L : List ST} {K k d : Nat} (hb : brkC q = false) (hd : d < 8) (h : tk (q.1 + K) = k) : deepC tk sf k d (Sx q L K) = Sx q L (K + 1) := by
  rw [deepC, if_pos hd, sx_take hb h]
theorem now_step {tk : Nat → Nat} (q : PS) (x y z : Int32) : nowC tk (stepC x y z q) = nowC tk q := by
  obtain ⟨i, b, e, a, s, o, g, j⟩ := q
  rfl
/-- f reads the tokens I, lays the steps L, when nx stands behind -/
def Ps (tk : Nat → Nat) (vf : Nat → Int64) (f : PS → PS) (I : List (Nat × Int64)) (L : List ST) (nx : Nat → Prop) : Prop := ∀ q, brkC q = false → AtT tk vf q.1 I → nx (tk (q.1 + I.length)) → f q = Sx q L I.length
def Any (_ : Nat) : Prop := True
def NoOp (k : Nat) : Prop := ¬ k = 30 ∧ ¬ k = 31 ∧ ¬ k = 32 ∧ ¬ k = 33
def NoTs (k : Nat) : Prop := NoOp k ∧ ¬ k = 20 ∧ ¬ k = 21
theorem Ps.at {tk : Nat → Nat} {vf : Nat → Int64} {f : PS → PS} {I : List (Nat × Int64)} {L : List ST} {nx : Nat → Prop} (h : Ps tk vf f I L nx) {q : PS} {M : List ST} {K : Nat} (hb : brkC q = false) (hA : AtT tk vf (q.1 + K) I) (hn : nx (tk (q.1 + K + I.length))) : f (Sx q M K) = Sx q (M ++ L) (K + I.length) := by
  rw [h (Sx q M K) (by rw [sx_brk]; exact hb) (by rw [sx_i]; exact hA) (by rw [sx_i]; exact hn), sx_sx]
theorem Ps.eqI {tk : Nat → Nat} {vf : Nat → Int64} {f : PS → PS} {I I' : List (Nat × Int64)} {L L' : List ST} {nx : Nat → Prop} (h : Ps tk vf f I L nx) (e : I' = I) (e2 : L' = L) : Ps tk vf f I' L' nx := by
  rw [e, e2]
  exact h
theorem Ps.mono {tk : Nat → Nat} {vf : Nat → Int64} {f : PS → PS} {I : List (Nat × Int64)} {L : List ST} {nx ny : Nat → Prop} (h : Ps tk vf f I L nx) (hh : ∀ k, ny k → nx k) : Ps tk vf f I L ny := fun q hb hA hn => h q hb hA (hh _ hn)
theorem loopC_no {tk : Nat → Nat} {sf : Nat → Int32} {c1 c2 f : Nat} {x1 x2 : Int32} {v : PS → PS} {q : PS} (h1 : ¬ nowC tk q = c1) (h2 : ¬ nowC tk q = c2) : loopC tk sf c1 c2 x1 x2 v f q = q := by
  cases f with
  | zero => rfl
  | succ f => rw [loopC, if_neg h1, if_neg h2]
theorem loopC_1 {tk : Nat → Nat} {sf : Nat → Int32} {c1 c2 f : Nat} {x1 x2 : Int32} {v : PS → PS} {q q2 : PS} (h1 : nowC tk q = c1) (h2 : v (takeC tk sf c1 q) = q2) (h3 : ¬ nowC tk q2 = c1) (h4 : ¬ nowC tk q2 = c2) : loopC tk sf c1 c2 x1 x2 v (f + 1) q = stepC x1 0 0 q2 := by
  rw [loopC, if_pos h1, h1, h2]
  exact loopC_no (by rw [now_step]; exact h3) (by rw [now_step]; exact h4)
theorem loopC_2 {tk : Nat → Nat} {sf : Nat → Int32} {c1 c2 f : Nat} {x1 x2 : Int32} {v : PS → PS} {q q2 : PS} (h0 : ¬ c2 = c1) (h1 : nowC tk q = c2) (h2 : v (takeC tk sf c2 q) = q2) (h3 : ¬ nowC tk q2 = c1) (h4 : ¬ nowC tk q2 = c2) : loopC tk sf c1 c2 x1 x2 v (f + 1) q = stepC x2 0 0 q2 := by
  rw [loopC, if_neg (by rw [h1]; exact h0), if_pos h1, h1, h2]
  exact loopC_no (by rw [now_step]; exact h3) (by rw [now_step]; exact h4)
theorem loopD_no {tk : Nat → Nat} {sf : Nat → Int32} {c f : Nat} {x : Int32} {v : PS → PS} {q : PS} (h1 : ¬ nowC tk q = c) : loopD tk sf c x v f q = q := by
  cases f with
  | zero => rfl
  | succ f => rw [loopD, if_neg h1]
theorem loopD_1 {tk : Nat → Nat} {sf : Nat → Int32} {c f : Nat} {x : Int32} {v : PS → PS} {q q2 : PS} (h1 : nowC tk q = c) (h2 : v (takeC tk sf c q) = q2) (h3 : ¬ nowC tk q2 = c) : loopD tk sf c x v (f + 1) q = stepC x 0 0 q2 := by
  rw [loopD, if_pos h1, h2]
  exact loopD_no (by rw [now_step]; exact h3)
theorem prod_1 {tk : Nat → Nat} {sf : Nat → Int32} {v : PS → PS} {q q1 : PS} (h : v q = q1) (h2 : ¬ nowC tk q1 = 32) (h3 : ¬ nowC tk q1 = 33) : prodC tk sf v q = q1 := by
  rw [prodC, h]
  exact loopC_no h2 h3
theorem sum_1 {tk : Nat → Nat} {sf : Nat → Int32} {v : PS → PS} {q q1 : PS} (h : v q = q1) (h2 : NoOp (nowC tk q1)) : sumC tk sf v q = q1 := by
  rw [sumC, prod_1 h h2.2.2.1 h2.2.2.2]
  exact loopC_no h2.1 h2.2.1
theorem sum_op {tk : Nat → Nat} {sf : Nat → Int32} {v : PS → PS} {q q1 q2 : PS} {k : Nat} {x : Int32} (h : v q = q1) (h1 : nowC tk q1 = k) (h2 : v (takeC tk sf k q1) = q2) (h3 : NoOp (nowC tk q2)) (hk : (k = 30 ∧ x = 10) ∨ (k = 31 ∧ x = 11) ∨ (k = 32 ∧ x = 12) ∨ (k = 33 ∧ x = 13)) : sumC tk sf v q = stepC x 0 0 q2 := by
  obtain ⟨n1, n2, n3, n4⟩ := h3
  rcases hk with ⟨rfl, rfl⟩ | ⟨rfl, rfl⟩ | ⟨rfl, rfl⟩ | ⟨rfl, rfl⟩
  · rw [sumC, prod_1 h (by rw [h1]; decide) (by rw [h1]; decide)]
    exact loopC_1 h1 (prod_1 h2 n3 n4) n1 n2
  · rw [sumC, prod_1 h (by rw [h1]; decide) (by rw [h1]; decide)]
    exact loopC_2 (by decide) h1 (prod_1 h2 n3 n4) n1 n2
  · have e : prodC tk sf v q = stepC 12 0 0 q2 := by
      rw [prodC, h]
      exact loopC_1 h1 h2 n3 n4
    rw [sumC, e]
    exact loopC_no (by rw [now_step]; exact n1) (by rw [now_step]; exact n2)
  · have e : prodC tk sf v q = stepC 13 0 0 q2 := by
      rw [prodC, h]
      exact loopC_2 (by decide) h1 h2 n3 n4
    rw [sumC, e]
    exact loopC_no (by rw [now_step]; exact n1) (by rw [now_step]; exact n2)
theorem test_1 {tk : Nat → Nat} {sf : Nat → Int32} {v : PS → PS} {q q1 : PS} (h : v q = q1) (h2 : ¬ nowC tk q1 = 20) (h3 : ¬ nowC tk q1 = 21) : testC tk sf v q = q1 := by
  rw [testC, bothC, h, loopD_no h2]
  exact loopD_no h3
theorem test_op {tk : Nat → Nat} {sf : Nat → Int32} {v : PS → PS} {q q1 q2 : PS} {k : Nat} {x : Int32} (h : v q = q1) (h1 : nowC tk q1 = k) (h2 : v (takeC tk sf k q1) = q2) (h3 : ¬ nowC tk q2 = 20) (h4 : ¬ nowC tk q2 = 21) (hk : (k = 20 ∧ x = 21) ∨ (k = 21 ∧ x = 22)) : testC tk sf v q = stepC x 0 0 q2 := by
  have b0 : ∀ p p1, v p = p1 → ¬ nowC tk p1 = 20 → bothC tk sf v p = p1 := fun p p1 e1 e2 => by
    rw [bothC, e1]
    exact loopD_no e2
  rcases hk with ⟨rfl, rfl⟩ | ⟨rfl, rfl⟩
  · have e : bothC tk sf v q = stepC 21 0 0 q2 := by
      rw [bothC, h]
      exact loopD_1 h1 h2 h3
    rw [testC, e]
    exact loopD_no (by rw [now_step]; exact h4)
  · rw [testC, b0 q q1 h (by rw [h1]; decide)]
    exact loopD_1 h1 (b0 _ _ h2 h3) h4
theorem Ps.sum {tk : Nat → Nat} {sf : Nat → Int32} {vf : Nat → Int64} {v : PS → PS} {I : List (Nat × Int64)} {L : List ST} (h : Ps tk vf v I L Any) : Ps tk vf (sumC tk sf v) I L NoOp := fun q hb hA hn => sum_1 (h q hb hA trivial) (by rw [sx_now hb]; exact hn)
theorem Ps.op {tk : Nat → Nat} {sf : Nat → Int32} {vf : Nat → Int64} {v : PS → PS} {I J : List (Nat × Int64)} {L M : List ST} {k : Nat} {x : Int32} (hk : (k = 30 ∧ x = 10) ∨ (k = 31 ∧ x = 11) ∨ (k = 32 ∧ x = 12) ∨ (k = 33 ∧ x = 13)) (h : Ps tk vf v I L Any) (h2 : Ps tk vf v J M Any) : Ps tk vf (sumC tk sf v) (I ++ (k, 0) :: J) ((L ++ M) ++ [(x, 0, 0)]) NoOp := by
  intro q hb hA hn
  obtain ⟨a1, a2, -, a3⟩ := hA.app
  rw [List.length_append, List.length_cons] at hn ⊢
  have e : q.1 + (I.length + (J.length + 1)) = q.1 + (I.length + 1) + J.length := by omega
  rw [e] at hn
  have e2 : v (takeC tk sf k (Sx q L I.length)) = Sx q (L ++ M) (I.length + 1 + J.length) := by
    rw [sx_take hb a2]
    exact h2.at hb a3 trivial
  rw [sum_op (h q hb a1 trivial) (by rw [sx_now hb]; exact a2) e2 (by rw [sx_now hb, ← Nat.add_assoc]; exact hn) hk, sx_step]
  exact congrArg _ (by omega)
theorem Ps.ts {tk : Nat → Nat} {sf : Nat → Int32} {vf : Nat → Int64} {v : PS → PS} {I : List (Nat × Int64)} {L : List ST} (h : Ps tk vf v I L NoOp) : Ps tk vf (testC tk sf v) I L NoTs := fun q hb hA hn => test_1 (h q hb hA hn.1) (by rw [sx_now hb]; exact hn.2.1) (by rw [sx_now hb]; exact hn.2.2)
theorem Ps.top {tk : Nat → Nat} {sf : Nat → Int32} {vf : Nat → Int64} {v : PS → PS} {I J : List (Nat × Int64)} {L M : List ST} {k : Nat} {x : Int32} (hk : (k = 20 ∧ x = 21) ∨ (k = 21 ∧ x = 22)) (h : Ps tk vf v I L Any) (h2 : Ps tk vf v J M Any) : Ps tk vf (testC tk sf v) (I ++ (k, 0) :: J) ((L ++ M) ++ [(x, 0, 0)]) NoTs := by
  intro q hb hA hn
  obtain ⟨a1, a2, -, a3⟩ := hA.app
  rw [List.length_append, List.length_cons] at hn ⊢
  have e : q.1 + (I.length + (J.length + 1)) = q.1 + (I.length + 1) + J.length := by omega
  rw [e] at hn
  have e2 : v (takeC tk sf k (Sx q L I.length)) = Sx q (L ++ M) (I.length + 1 + J.length) := by
    rw [sx_take hb a2]
    exact h2.at hb a3 trivial
  rw [test_op (h q hb a1 trivial) (by rw [sx_now hb]; exact a2) e2 (by rw [sx_now hb, ← Nat.add_assoc]; exact hn.2.1) (by rw [sx_now hb, ← Nat.add_assoc]; exact hn.2.2) hk, sx_step]
  exact congrArg _ (by omega)
theorem valB_40 {tk : Nat → Nat} {sf : Nat → Int32} {vf nm : Nat → Int64} {m : Nat} {d : Nat} {v : PS → PS} {q : PS} (h : nowC tk q = 40) : valB tk sf vf nm m d v q = stepC 0 (valT tk vf 40 q).toInt32 0 (takeC tk sf 40 q) := by
  unfold valB
  rw [h]
  rfl
theorem valB_11 {tk : Nat → Nat} {sf : Nat → Int32} {vf nm : Nat → Int64} {m : Nat} {d : Nat} {v : PS → PS} {q : PS} (h : nowC tk q = 11) : valB tk sf vf nm m d v q = stepC 1 0 0 (takeC tk sf 11 q) := by
  unfold valB
  rw [h]
  rfl
theorem valB_15 {tk : Nat → Nat} {sf : Nat → Int32} {vf nm : Nat → Int64} {m : Nat} {d : Nat} {v : PS → PS} {q : PS} (h : nowC tk q = 15) : valB tk sf vf nm m d v q = stepC 2 0 0 (takeC tk sf 15 q) := by
  unfold valB
  rw [h]
  rfl
theorem valB_12 {tk : Nat → Nat} {sf : Nat → Int32} {vf nm : Nat → Int64} {m : Nat} {d : Nat} {v : PS → PS} {q : PS} (h : nowC tk q = 12) : valB tk sf vf nm m d v q = abtC tk sf vf nm m 3 q := by
  unfold valB
  rw [h]
  rfl
theorem valB_13 {tk : Nat → Nat} {sf : Nat → Int32} {vf nm : Nat → Int64} {m : Nat} {d : Nat} {v : PS → PS} {q : PS} (h : nowC tk q = 13) : valB tk sf vf nm m d v q = abtC tk sf vf nm m 4 q := by
  unfold valB
  rw [h]
  rfl
theorem valB_14 {tk : Nat → Nat} {sf : Nat → Int32} {vf nm : Nat → Int64} {m : Nat} {d : Nat} {v : PS → PS} {q : PS} (h : nowC tk q = 14) : valB tk sf vf nm m d v q = abtC tk sf vf nm m 5 q := by
  unfold valB
  rw [h]
  rfl
theorem valB_31 {tk : Nat → Nat} {sf : Nat → Int32} {vf nm : Nat → Int64} {m : Nat} {d : Nat} {v : PS → PS} {q : PS} (h : nowC tk q = 31) : valB tk sf vf nm m d v q = (if brkC (deepC tk sf 31 d q) = true then deepC tk sf 31 d q else stepC 8 0 0 (v (deepC tk sf 31 d q))) := by
  unfold valB
  rw [h]
  rfl
theorem valB_24 {tk : Nat → Nat} {sf : Nat → Int32} {vf nm : Nat → Int64} {m : Nat} {d : Nat} {v : PS → PS} {q : PS} (h : nowC tk q = 24) : valB tk sf vf nm m d v q = (if brkC (deepC tk sf 24 d q) = true then deepC tk sf 24 d q else takeC tk sf 25 (sumC tk sf v (deepC tk sf 24 d q))) := by
  unfold valB
  rw [h]
  rfl
theorem valB_22 {tk : Nat → Nat} {sf : Nat → Int32} {vf nm : Nat → Int64} {m : Nat} {d : Nat} {v : PS → PS} {q : PS} (h : nowC tk q = 22) : valB tk sf vf nm m d v q = choC tk sf d v q := by
  unfold valB
  rw [h]
  rfl
theorem valB_23 {tk : Nat → Nat} {sf : Nat → Int32} {vf nm : Nat → Int64} {m : Nat} {d : Nat} {v : PS → PS} {q : PS} (h : nowC tk q = 23) : valB tk sf vf nm m d v q = choC tk sf d v q := by
  unfold valB
  rw [h]
  rfl
theorem sglB_19 {tk : Nat → Nat} {sf : Nat → Int32} {vf nm : Nat → Int64} {m : Nat} {d : Nat} {v u : PS → PS} {q : PS} (h : nowC tk q = 19) : sglB tk sf vf nm m d v u q = (if brkC (deepC tk sf 19 d q) = true then deepC tk sf 19 d q else stepC 9 0 0 (u (deepC tk sf 19 d q))) := by
  unfold sglB
  rw [h]
  rfl
theorem sglB_26 {tk : Nat → Nat} {sf : Nat → Int32} {vf nm : Nat → Int64} {m : Nat} {d : Nat} {v u : PS → PS} {q : PS} (h : nowC tk q = 26) : sglB tk sf vf nm m d v u q = (if brkC (deepC tk sf 26 d q) = true then deepC tk sf 26 d q else takeC tk sf 27 (testC tk sf u (deepC tk sf 26 d q))) := by
  unfold sglB
  rw [h]
  rfl
theorem sglB_17 {tk : Nat → Nat} {sf : Nat → Int32} {vf nm : Nat → Int64} {m : Nat} {d : Nat} {v u : PS → PS} {q : PS} (h : nowC tk q = 17) : sglB tk sf vf nm m d v u q = stepC 6 (hseC tk vf nm m (takeC tk sf 17 q)) (hseC tk vf nm m (knwC tk sf vf nm m (takeC tk sf 17 q))) (knwC tk sf vf nm m (knwC tk sf vf nm m (takeC tk sf 17 q))) := by
  unfold sglB
  rw [h]
  rfl
theorem sglB_18 {tk : Nat → Nat} {sf : Nat → Int32} {vf nm : Nat → Int64} {m : Nat} {d : Nat} {v u : PS → PS} {q : PS} (h : nowC tk q = 18) : sglB tk sf vf nm m d v u q = stepC 7 (hseC tk vf nm m (takeC tk sf 18 q)) 0 (knwC tk sf vf nm m (takeC tk sf 18 q)) := by
  unfold sglB
  rw [h]
  rfl
/-- the told houses' names -/
def NmOk (nm : Nat → Int64) (m : Nat) : Prop := m ≤ 9 ∧ ∀ i, i < m → nm i = hV i
theorem hn_at {nm : Nat → Int64} {m d : Nat} (h : NmOk nm m) (hd : d < m) : hnF nm (hV d) m = nI d := by
  have e : fstN (fun i => nm i == hV d) m = some d := fstN_some hd (by rw [h.2 d hd]; exact beq_self_eq_true _) (fun j hj => by
    rw [h.2 j (by omega)]
    exact beq_false_of_ne (fun q => by have := hV_inj j (by have := h.1; omega) d (by have := h.1; omega) q; omega))
  rw [hnF, e]
theorem hs_ok {tk : Nat → Nat} {vf nm : Nat → Int64} {m : Nat} {q : PS} {L : List ST} {K d : Nat} (hb : brkC q = false) (hN : NmOk nm m) (hd : d < m) (h : tk (q.1 + K) = 39) (hv : vf (q.1 + K) = hV d) : hseC tk vf nm m (Sx q L K) = nI d := by
  rw [hseC, val_ok (by rw [sx_brk]; exact hb) (by rw [sx_i]; exact h), sx_i, hv]
  exact hn_at hN hd
theorem kn_ok {tk : Nat → Nat} {sf : Nat → Int32} {vf nm : Nat → Int64} {m : Nat} {q : PS} {L : List ST} {K d : Nat} (hb : brkC q = false) (hN : NmOk nm m) (hd : d < m) (h : tk (q.1 + K) = 39) (hv : vf (q.1 + K) = hV d) : knwC tk sf vf nm m (Sx q L K) = Sx q L (K + 1) := by
  rw [knwC, hs_ok hb hN hd h hv, if_neg (nI_ne1 (by have := hN.1; omega)), sx_take hb h]
theorem val_r {tk : Nat → Nat} {sf : Nat → Int32} {vf nm : Nat → Int64} {m : Nat} {r d : Nat} : valC tk sf vf nm m (r + 1) d = valB tk sf vf nm m d (valC tk sf vf nm m r (d + 1)) := rfl
theorem vfn {tk : Nat → Nat} {sf : Nat → Int32} {vf nm : Nat → Int64} {m : Nat} (r d : Nat) : ∃ v, valC tk sf vf nm m r d = valB tk sf vf nm m d v := by
  cases r with
  | zero => exact ⟨_, rfl⟩
  | succ r => exact ⟨_, rfl⟩
theorem sgn_ {tk : Nat → Nat} {sf : Nat → Int32} {vf nm : Nat → Int64} {m : Nat} (r d : Nat) : ∃ u, sglC tk sf vf nm m r d = sglB tk sf vf nm m d (valC tk sf vf nm m r d) u := by
  cases r with
  | zero => exact ⟨_, rfl⟩
  | succ r => exact ⟨_, rfl⟩
theorem i64_32 {v : Nat} : (Int64.ofNat v).toInt32 = nI v := by
  apply Int32.toBitVec_inj.mp
  simp [nI]
theorem Ps.num {tk : Nat → Nat} {sf : Nat → Int32} {vf nm : Nat → Int64} {m : Nat} {d v : Nat} {w : PS → PS} : Ps tk vf (valB tk sf vf nm m d w) [(40, Int64.ofNat v)] [(0, nI v, 0)] Any := by
  intro q hb hA _
  obtain ⟨a1, a2, -⟩ := hA
  rw [valB_40 (by rw [now_ok hb]; exact a1), val_ok hb a1, a2, take_ok hb a1, sx_step]
  show Sx q [((0 : Int32), (Int64.ofNat v).toInt32, (0 : Int32))] 1 = _
  rw [i64_32]
  rfl
theorem Ps.day {tk : Nat → Nat} {sf : Nat → Int32} {vf nm : Nat → Int64} {m : Nat} {d : Nat} {w : PS → PS} : Ps tk vf (valB tk sf vf nm m d w) [(11, 0)] [(1, 0, 0)] Any := by
  intro q hb hA _
  rw [valB_11 (by rw [now_ok hb]; exact hA.1), take_ok hb hA.1, sx_step]
  rfl
theorem Ps.worst {tk : Nat → Nat} {sf : Nat → Int32} {vf nm : Nat → Int64} {m : Nat} {d : Nat} {w : PS → PS} : Ps tk vf (valB tk sf vf nm m d w) [(15, 0)] [(2, 0, 0)] Any := by
  intro q hb hA _
  rw [valB_15 (by rw [now_ok hb]; exact hA.1), take_ok hb hA.1, sx_step]
  rfl
theorem abt_ok {tk : Nat → Nat} {sf : Nat → Int32} {vf nm : Nat → Int64} {m : Nat} {q : PS} {k h : Nat} {x : Int32} (hb : brkC q = false) (hN : NmOk nm m) (hd : h < m) (hA : AtT tk vf q.1 [(k, 0), (16, 0), (39, hV h)]) : abtC tk sf vf nm m x q = Sx q [(x, nI h, 0)] 3 := by
  obtain ⟨a1, -, a2, -, a3, a4, -⟩ := hA
  rw [abtC, now_ok hb, take_ok hb rfl, sx_take hb a2, hs_ok hb hN hd a3 a4, kn_ok hb hN hd a3 a4, sx_step]
  rfl
theorem Ps.abt12 {tk : Nat → Nat} {sf : Nat → Int32} {vf nm : Nat → Int64} {m : Nat} {d h : Nat} {w : PS → PS} (hN : NmOk nm m) (hd : h < m) : Ps tk vf (valB tk sf vf nm m d w) [(12, 0), (16, 0), (39, hV h)] [(3, nI h, 0)] Any := fun q hb hA _ => by
  rw [valB_12 (by rw [now_ok hb]; exact hA.1)]
  exact abt_ok hb hN hd hA
theorem Ps.abt13 {tk : Nat → Nat} {sf : Nat → Int32} {vf nm : Nat → Int64} {m : Nat} {d h : Nat} {w : PS → PS} (hN : NmOk nm m) (hd : h < m) : Ps tk vf (valB tk sf vf nm m d w) [(13, 0), (16, 0), (39, hV h)] [(4, nI h, 0)] Any := fun q hb hA _ => by
  rw [valB_13 (by rw [now_ok hb]; exact hA.1)]
  exact abt_ok hb hN hd hA
theorem Ps.abt14 {tk : Nat → Nat} {sf : Nat → Int32} {vf nm : Nat → Int64} {m : Nat} {d h : Nat} {w : PS → PS} (hN : NmOk nm m) (hd : h < m) : Ps tk vf (valB tk sf vf nm m d w) [(14, 0), (16, 0), (39, hV h)] [(5, nI h, 0)] Any := fun q hb hA _ => by
  rw [valB_14 (by rw [now_ok hb]; exact hA.1)]
  exact abt_ok hb hN hd hA
theorem Ps.par {tk : Nat → Nat} {sf : Nat → Int32} {vf nm : Nat → Int64} {m : Nat} {d : Nat} {v : PS → PS} {I : List (Nat × Int64)} {L : List ST} (hd : d < 8) (h : Ps tk vf (sumC tk sf v) I L NoOp) : Ps tk vf (valB tk sf vf nm m d v) ((24, 0) :: (I ++ [(25, 0)])) L Any := by
  intro q hb hA _
  obtain ⟨a1, -, a2⟩ := hA
  obtain ⟨a3, a4, -⟩ := a2.app
  have e := deep_ok (sf := sf) (L := []) (K := 0) hb hd a1
  rw [sx_0] at e
  rw [valB_24 (by rw [now_ok hb]; exact a1), e, if_neg (by rw [sx_brk, hb]; exact Bool.false_ne_true), h.at hb a3 (by rw [a4]; exact ⟨by decide, by decide, by decide, by decide⟩), sx_take hb (by rw [← Nat.add_assoc]; exact a4), List.nil_append]
  refine congrArg _ ?_
  simp only [List.length_cons, List.length_append, List.length_nil]
  omega
theorem Ps.neg {tk : Nat → Nat} {sf : Nat → Int32} {vf nm : Nat → Int64} {m : Nat} {d : Nat} {v : PS → PS} {I : List (Nat × Int64)} {L : List ST} (hd : d < 8) (h : Ps tk vf v I L Any) : Ps tk vf (valB tk sf vf nm m d v) ((31, 0) :: I) (L ++ [(8, 0, 0)]) Any := by
  intro q hb hA _
  obtain ⟨a1, -, a2⟩ := hA
  have e := deep_ok (sf := sf) (L := []) (K := 0) hb hd a1
  rw [sx_0] at e
  rw [valB_31 (by rw [now_ok hb]; exact a1), e, if_neg (by rw [sx_brk, hb]; exact Bool.false_ne_true), h.at hb a2 trivial, sx_step, List.nil_append]
  refine congrArg _ ?_
  simp only [List.length_cons]
  omega
theorem Ps.cho {tk : Nat → Nat} {sf : Nat → Int32} {vf nm : Nat → Int64} {m : Nat} {d k : Nat} {x : Int32} {v : PS → PS} {I J : List (Nat × Int64)} {L M : List ST} (hd : d < 8) (hk : (k = 22 ∧ x = 14) ∨ (k = 23 ∧ x = 15)) (h : Ps tk vf (sumC tk sf v) I L NoOp) (h2 : Ps tk vf (sumC tk sf v) J M NoOp) : Ps tk vf (valB tk sf vf nm m d v) ((k, 0) :: (24, 0) :: (I ++ (29, 0) :: (J ++ [(25, 0)]))) ((L ++ M) ++ [(x, 0, 0)]) Any := by
  intro q hb hA _
  obtain ⟨a1, -, a2, -, a3⟩ := hA
  obtain ⟨a4, a5, -, a6⟩ := a3.app
  obtain ⟨a7, a8, -⟩ := a6.app
  have e0 : valB tk sf vf nm m d v q = choC tk sf d v q := by
    rcases hk with ⟨rfl, -⟩ | ⟨rfl, -⟩
    · exact valB_22 (by rw [now_ok hb]; exact a1)
    · exact valB_23 (by rw [now_ok hb]; exact a1)
  have ex : (if k = 22 then (14 : Int32) else 15) = x := by
    rcases hk with ⟨rfl, rfl⟩ | ⟨rfl, rfl⟩ <;> rfl
  have e1 : nowC tk q = k := by rw [now_ok hb]; exact a1
  rw [e0, choC, e1, take_ok hb a1, deep_ok hb hd a2, if_neg (by rw [sx_brk, hb]; exact Bool.false_ne_true), h.at hb a4 (by rw [a5]; exact ⟨by decide, by decide, by decide, by decide⟩), sx_take hb (by rw [← Nat.add_assoc]; exact a5)]
  have e7 : q.1 + 1 + 1 + I.length + 1 = q.1 + (1 + 1 + I.length + 1) := by omega
  have a7' : AtT tk vf (q.1 + (1 + 1 + I.length + 1)) J := by rw [← e7]; exact a7
  have a8' : tk (q.1 + (1 + 1 + I.length + 1) + J.length) = 25 := by rw [← e7]; exact a8
  rw [h2.at hb a7' (by rw [a8']; exact ⟨by decide, by decide, by decide, by decide⟩), sx_take hb (by rw [← Nat.add_assoc]; exact a8'), sx_step, ex, List.nil_append]
  refine congrArg _ ?_
  simp only [List.length_cons, List.length_append, List.length_nil]
  omega
theorem Ps.cmp {tk : Nat → Nat} {sf : Nat → Int32} {vf nm : Nat → Int64} {m : Nat} {d k : Nat} {x : Int32} {v u : PS → PS} {I J : List (Nat × Int64)} {L M : List ST} (hk : cmpK k = x ∧ ¬ x = -1 ∧ NoOp k) (h : Ps tk vf (sumC tk sf v) I L NoOp) (h2 : Ps tk vf (sumC tk sf v) J M NoOp) (h3 : ∃ t I', I = t :: I' ∧ ¬ t.1 = 19 ∧ ¬ t.1 = 26 ∧ ¬ t.1 = 17 ∧ ¬ t.1 = 18) : Ps tk vf (sglB tk sf vf nm m d v u) (I ++ (k, 0) :: J) ((L ++ M) ++ [(x, 0, 0)]) NoOp := by
  intro q hb hA hn
  obtain ⟨a1, a2, -, a3⟩ := hA.app
  have e1 : nowC tk q = tk q.1 := now_ok hb
  obtain ⟨t, I', rfl, n1, n2, n3, n4⟩ := h3
  have e2 : tk q.1 = t.1 := a1.1
  rw [sglB, e1, e2, if_neg n1, if_neg n2, if_neg n3, if_neg n4]
  have e3 : sumC tk sf v q = Sx q L (t :: I').length := h q hb a1 (by rw [a2]; exact hk.2.2)
  rw [List.length_append] at hn ⊢
  have e : q.1 + ((t :: I').length + ((k, (0 : Int64)) :: J).length) = q.1 + ((t :: I').length + 1) + J.length := by
    simp only [List.length_cons]
    omega
  rw [e] at hn
  rw [cmpC, e3, sx_now hb, a2, hk.1, if_neg hk.2.1, sx_take hb a2, h2.at hb a3 hn, sx_step]
  refine congrArg _ ?_
  simp only [List.length_cons]
  omega
theorem Ps.bra {tk : Nat → Nat} {sf : Nat → Int32} {vf nm : Nat → Int64} {m : Nat} {d : Nat} {v u : PS → PS} {I : List (Nat × Int64)} {L : List ST} (hd : d < 8) (h : Ps tk vf (testC tk sf u) I L NoTs) : Ps tk vf (sglB tk sf vf nm m d v u) ((26, 0) :: (I ++ [(27, 0)])) L Any := by
  intro q hb hA _
  obtain ⟨a1, -, a2⟩ := hA
  obtain ⟨a3, a4, -⟩ := a2.app
  have e := deep_ok (sf := sf) (L := []) (K := 0) hb hd a1
  rw [sx_0] at e
  rw [sglB_26 (by rw [now_ok hb]; exact a1), e, if_neg (by rw [sx_brk, hb]; exact Bool.false_ne_true), h.at hb a3 (by rw [a4]; exact ⟨⟨by decide, by decide, by decide, by decide⟩, by decide, by decide⟩), sx_take hb (by rw [← Nat.add_assoc]; exact a4), List.nil_append]
  refine congrArg _ ?_
  simp only [List.length_cons, List.length_append, List.length_nil]
  omega
theorem Ps.not {tk : Nat → Nat} {sf : Nat → Int32} {vf nm : Nat → Int64} {m : Nat} {d : Nat} {v u : PS → PS} {I : List (Nat × Int64)} {L : List ST} (hd : d < 8) (h : Ps tk vf u I L Any) : Ps tk vf (sglB tk sf vf nm m d v u) ((19, 0) :: I) (L ++ [(9, 0, 0)]) Any := by
  intro q hb hA _
  obtain ⟨a1, -, a2⟩ := hA
  have e := deep_ok (sf := sf) (L := []) (K := 0) hb hd a1
  rw [sx_0] at e
  rw [sglB_19 (by rw [now_ok hb]; exact a1), e, if_neg (by rw [sx_brk, hb]; exact Bool.false_ne_true), h.at hb a2 trivial, sx_step, List.nil_append]
  refine congrArg _ ?_
  simp only [List.length_cons]
  omega
theorem Ps.sha {tk : Nat → Nat} {sf : Nat → Int32} {vf nm : Nat → Int64} {m : Nat} {d a b : Nat} {v u : PS → PS} (hN : NmOk nm m) (ha : a < m) (hb2 : b < m) : Ps tk vf (sglB tk sf vf nm m d v u) [(17, 0), (39, hV a), (39, hV b)] [(6, nI a, nI b)] Any := by
  intro q hb hA _
  obtain ⟨a1, -, a2, a3, a4, a5, -⟩ := hA
  rw [sglB_17 (by rw [now_ok hb]; exact a1), take_ok hb a1, hs_ok hb hN ha a2 a3, kn_ok hb hN ha a2 a3, hs_ok hb hN hb2 a4 a5, kn_ok hb hN hb2 a4 a5, sx_step]
  rfl
theorem Ps.drk {tk : Nat → Nat} {sf : Nat → Int32} {vf nm : Nat → Int64} {m : Nat} {d a : Nat} {v u : PS → PS} (hN : NmOk nm m) (ha : a < m) : Ps tk vf (sglB tk sf vf nm m d v u) [(18, 0), (39, hV a)] [(7, nI a, 0)] Any := by
  intro q hb hA _
  obtain ⟨a1, -, a2, a3, -⟩ := hA
  rw [sglB_18 (by rw [now_ok hb]; exact a1), take_ok hb a1, hs_ok hb hN ha a2 a3, kn_ok hb hN ha a2 a3, sx_step]
  rfl
/-- a node's steps, with its branches' -/
def sl1 (n : Nat) (q : TN) (A B : List ST) : List ST := if kN q = 0 then [(0, nI (nuQ n q), 0)] else if kN q = 1 then [(1, 0, 0)] else if kN q = 2 then [(2, 0, 0)] else if kN q = 3 then [(3, nI (nuQ n q), 0)] else if kN q = 4 then [(4, nI (nuQ n q), 0)] else if kN q = 5 then [(5, nI (nuQ n q), 0)] else if kN q = 6 then A ++ [(8, 0, 0)] else if kN q = 7 then (A ++ B) ++ [(10, 0, 0)] else if kN q = 8 then (A ++ B) ++ [(11, 0, 0)] else if kN q = 9 then (A ++ B) ++ [(12, 0, 0)] else if kN q = 10 then (A ++ B) ++ [(13, 0, 0)] else if kN q = 11 then (A ++ B) ++ [(14, 0, 0)] else if kN q = 12 then (A ++ B) ++ [(15, 0, 0)] else if kN q = 20 then (A ++ B) ++ [(16, 0, 0)] else if kN q = 21 then (A ++ B) ++ [(17, 0, 0)] else if kN q = 22 then (A ++ B) ++ [(18, 0, 0)] else if kN q = 23 then (A ++ B) ++ [(19, 0, 0)] else if kN q = 24 then (A ++ B) ++ [(20, 0, 0)] else if kN q = 25 then [(6, nI (nuQ n q), nI (otN n q))] else if kN q = 26 then [(7, nI (nuQ n q), 0)] else if kN q = 29 then A ++ [(9, 0, 0)] else if kN q = 30 then (A ++ B) ++ [(21, 0, 0)] else (A ++ B) ++ [(22, 0, 0)]
def stL (n : Nat) : Nat → TN → List ST
  | 0, _ => []
  | u + 1, q => sl1 n q (stL n u (kdA q)) (stL n u (kdB q))
theorem sl_0 {n u : Nat} {q : TN} (h : kN q = 0) : stL n (u + 1) q = [(0, nI (nuQ n q), 0)] := by
  show sl1 n q _ _ = _
  unfold sl1
  simp only [h]
  rfl
theorem sl_1 {n u : Nat} {q : TN} (h : kN q = 1) : stL n (u + 1) q = [(1, 0, 0)] := by
  show sl1 n q _ _ = _
  unfold sl1
  simp only [h]
  rfl
theorem sl_2 {n u : Nat} {q : TN} (h : kN q = 2) : stL n (u + 1) q = [(2, 0, 0)] := by
  show sl1 n q _ _ = _
  unfold sl1
  simp only [h]
  rfl
theorem sl_3 {n u : Nat} {q : TN} (h : kN q = 3) : stL n (u + 1) q = [(3, nI (nuQ n q), 0)] := by
  show sl1 n q _ _ = _
  unfold sl1
  simp only [h]
  rfl
theorem sl_4 {n u : Nat} {q : TN} (h : kN q = 4) : stL n (u + 1) q = [(4, nI (nuQ n q), 0)] := by
  show sl1 n q _ _ = _
  unfold sl1
  simp only [h]
  rfl
theorem sl_5 {n u : Nat} {q : TN} (h : kN q = 5) : stL n (u + 1) q = [(5, nI (nuQ n q), 0)] := by
  show sl1 n q _ _ = _
  unfold sl1
  simp only [h]
  rfl
theorem sl_6 {n u : Nat} {q : TN} (h : kN q = 6) : stL n (u + 1) q = stL n u (kdA q) ++ [(8, 0, 0)] := by
  show sl1 n q _ _ = _
  unfold sl1
  simp only [h]
  rfl
theorem sl_7 {n u : Nat} {q : TN} (h : kN q = 7) : stL n (u + 1) q = (stL n u (kdA q) ++ stL n u (kdB q)) ++ [(10, 0, 0)] := by
  show sl1 n q _ _ = _
  unfold sl1
  simp only [h]
  rfl
theorem sl_8 {n u : Nat} {q : TN} (h : kN q = 8) : stL n (u + 1) q = (stL n u (kdA q) ++ stL n u (kdB q)) ++ [(11, 0, 0)] := by
  show sl1 n q _ _ = _
  unfold sl1
  simp only [h]
  rfl
theorem sl_9 {n u : Nat} {q : TN} (h : kN q = 9) : stL n (u + 1) q = (stL n u (kdA q) ++ stL n u (kdB q)) ++ [(12, 0, 0)] := by
  show sl1 n q _ _ = _
  unfold sl1
  simp only [h]
  rfl
theorem sl_10 {n u : Nat} {q : TN} (h : kN q = 10) : stL n (u + 1) q = (stL n u (kdA q) ++ stL n u (kdB q)) ++ [(13, 0, 0)] := by
  show sl1 n q _ _ = _
  unfold sl1
  simp only [h]
  rfl
theorem sl_11 {n u : Nat} {q : TN} (h : kN q = 11) : stL n (u + 1) q = (stL n u (kdA q) ++ stL n u (kdB q)) ++ [(14, 0, 0)] := by
  show sl1 n q _ _ = _
  unfold sl1
  simp only [h]
  rfl
theorem sl_12 {n u : Nat} {q : TN} (h : kN q = 12) : stL n (u + 1) q = (stL n u (kdA q) ++ stL n u (kdB q)) ++ [(15, 0, 0)] := by
  show sl1 n q _ _ = _
  unfold sl1
  simp only [h]
  rfl
theorem sl_20 {n u : Nat} {q : TN} (h : kN q = 20) : stL n (u + 1) q = (stL n u (kdA q) ++ stL n u (kdB q)) ++ [(16, 0, 0)] := by
  show sl1 n q _ _ = _
  unfold sl1
  simp only [h]
  rfl
theorem sl_21 {n u : Nat} {q : TN} (h : kN q = 21) : stL n (u + 1) q = (stL n u (kdA q) ++ stL n u (kdB q)) ++ [(17, 0, 0)] := by
  show sl1 n q _ _ = _
  unfold sl1
  simp only [h]
  rfl
theorem sl_22 {n u : Nat} {q : TN} (h : kN q = 22) : stL n (u + 1) q = (stL n u (kdA q) ++ stL n u (kdB q)) ++ [(18, 0, 0)] := by
  show sl1 n q _ _ = _
  unfold sl1
  simp only [h]
  rfl
theorem sl_23 {n u : Nat} {q : TN} (h : kN q = 23) : stL n (u + 1) q = (stL n u (kdA q) ++ stL n u (kdB q)) ++ [(19, 0, 0)] := by
  show sl1 n q _ _ = _
  unfold sl1
  simp only [h]
  rfl
theorem sl_24 {n u : Nat} {q : TN} (h : kN q = 24) : stL n (u + 1) q = (stL n u (kdA q) ++ stL n u (kdB q)) ++ [(20, 0, 0)] := by
  show sl1 n q _ _ = _
  unfold sl1
  simp only [h]
  rfl
theorem sl_25 {n u : Nat} {q : TN} (h : kN q = 25) : stL n (u + 1) q = [(6, nI (nuQ n q), nI (otN n q))] := by
  show sl1 n q _ _ = _
  unfold sl1
  simp only [h]
  rfl
theorem sl_26 {n u : Nat} {q : TN} (h : kN q = 26) : stL n (u + 1) q = [(7, nI (nuQ n q), 0)] := by
  show sl1 n q _ _ = _
  unfold sl1
  simp only [h]
  rfl
theorem sl_29 {n u : Nat} {q : TN} (h : kN q = 29) : stL n (u + 1) q = stL n u (kdA q) ++ [(9, 0, 0)] := by
  show sl1 n q _ _ = _
  unfold sl1
  simp only [h]
  rfl
theorem sl_30 {n u : Nat} {q : TN} (h : kN q = 30) : stL n (u + 1) q = (stL n u (kdA q) ++ stL n u (kdB q)) ++ [(21, 0, 0)] := by
  show sl1 n q _ _ = _
  unfold sl1
  simp only [h]
  rfl
theorem sl_31 {n u : Nat} {q : TN} (h : kN q = 31) : stL n (u + 1) q = (stL n u (kdA q) ++ stL n u (kdB q)) ++ [(22, 0, 0)] := by
  show sl1 n q _ _ = _
  unfold sl1
  simp only [h]
  rfl
theorem kN_v {q : TN} (h : q.1 = false) : kN q = 0 ∨ kN q = 1 ∨ kN q = 2 ∨ kN q = 3 ∨ kN q = 4 ∨ kN q = 5 ∨ kN q = 6 ∨ kN q = 7 ∨ kN q = 8 ∨ kN q = 9 ∨ kN q = 10 ∨ kN q = 11 ∨ kN q = 12 := by
  have e : kN q = kS q.2.1 q.2.2 := by rw [kN, h]; rfl
  have := kS_lt q.2.1 q.2.2
  omega
theorem kN_t {q : TN} (h : q.1 = true) : kN q = 20 ∨ kN q = 21 ∨ kN q = 22 ∨ kN q = 23 ∨ kN q = 24 ∨ kN q = 25 ∨ kN q = 26 ∨ kN q = 29 ∨ kN q = 30 ∨ kN q = 31 := by
  have e : kN q = kT q.2.1 q.2.2 := by rw [kN, h]; rfl
  have := kT_in q.2.1 q.2.2
  omega
theorem kd_v {q : TN} (h : q.1 = false) : (kdA q).1 = false ∧ (kdB q).1 = false := by
  obtain ⟨b, x, d⟩ := q
  have h2 : b = false := h
  subst h2
  exact ⟨rfl, rfl⟩
theorem kd_c {q : TN} (h : q.1 = true) (hk : kN q < 25) : (kdA q).1 = false ∧ (kdB q).1 = false := by
  obtain ⟨b, x, d⟩ := q
  have h2 : b = true := h
  subst h2
  have h3 : kT x d < 25 := hk
  have e2 : kdA (true, x, d) = (false, x * 3 + 7, d + 1) := if_pos h3
  have e3 : kdB (true, x, d) = (false, x * 5 + 1, d + 1) := if_pos h3
  rw [e2, e3]
  exact ⟨rfl, rfl⟩
theorem kd_t {q : TN} (h : q.1 = true) (hk : ¬ kN q < 25) : (kdA q).1 = true ∧ (kdB q).1 = true := by
  obtain ⟨b, x, d⟩ := q
  have h2 : b = true := h
  subst h2
  have h3 : ¬ kT x d < 25 := hk
  have e2 : kdA (true, x, d) = (true, x * 3 + 5, d + 1) := if_neg h3
  have e3 : kdB (true, x, d) = (true, x * 7 + 3, d + 1) := if_neg h3
  rw [e2, e3]
  exact ⟨rfl, rfl⟩
theorem wf_1 {u : Nat} {q : TN} (h : WfT u q) : 1 ≤ u := by
  unfold WfT at h
  split at h <;> omega
theorem hd_val {n u : Nat} {q : TN} (hq : q.1 = false) (hw : WfT u q) : ∃ t I', tkL n u q = t :: I' ∧ ¬ t.1 = 19 ∧ ¬ t.1 = 26 ∧ ¬ t.1 = 17 ∧ ¬ t.1 = 18 := by
  cases u with
  | zero => exact (wf_0 hw).elim
  | succ u =>
    rcases kN_v hq with h | h | h | h | h | h | h | h | h | h | h | h | h
    · rw [tl_0 h]
      exact ⟨_, _, rfl, (by decide : ¬ (40 : Nat) = 19), (by decide : ¬ (40 : Nat) = 26), (by decide : ¬ (40 : Nat) = 17), (by decide : ¬ (40 : Nat) = 18)⟩
    · rw [tl_1 h]
      exact ⟨_, _, rfl, (by decide : ¬ (11 : Nat) = 19), (by decide : ¬ (11 : Nat) = 26), (by decide : ¬ (11 : Nat) = 17), (by decide : ¬ (11 : Nat) = 18)⟩
    · rw [tl_2 h]
      exact ⟨_, _, rfl, (by decide : ¬ (15 : Nat) = 19), (by decide : ¬ (15 : Nat) = 26), (by decide : ¬ (15 : Nat) = 17), (by decide : ¬ (15 : Nat) = 18)⟩
    · rw [tl_3 h]
      exact ⟨_, _, rfl, (by decide : ¬ (12 : Nat) = 19), (by decide : ¬ (12 : Nat) = 26), (by decide : ¬ (12 : Nat) = 17), (by decide : ¬ (12 : Nat) = 18)⟩
    · rw [tl_4 h]
      exact ⟨_, _, rfl, (by decide : ¬ (13 : Nat) = 19), (by decide : ¬ (13 : Nat) = 26), (by decide : ¬ (13 : Nat) = 17), (by decide : ¬ (13 : Nat) = 18)⟩
    · rw [tl_5 h]
      exact ⟨_, _, rfl, (by decide : ¬ (14 : Nat) = 19), (by decide : ¬ (14 : Nat) = 26), (by decide : ¬ (14 : Nat) = 17), (by decide : ¬ (14 : Nat) = 18)⟩
    · rw [tl_6 h]
      exact ⟨_, _, rfl, (by decide : ¬ (31 : Nat) = 19), (by decide : ¬ (31 : Nat) = 26), (by decide : ¬ (31 : Nat) = 17), (by decide : ¬ (31 : Nat) = 18)⟩
    · rw [tl_7 h]
      exact ⟨_, _, rfl, (by decide : ¬ (24 : Nat) = 19), (by decide : ¬ (24 : Nat) = 26), (by decide : ¬ (24 : Nat) = 17), (by decide : ¬ (24 : Nat) = 18)⟩
    · rw [tl_8 h]
      exact ⟨_, _, rfl, (by decide : ¬ (24 : Nat) = 19), (by decide : ¬ (24 : Nat) = 26), (by decide : ¬ (24 : Nat) = 17), (by decide : ¬ (24 : Nat) = 18)⟩
    · rw [tl_9 h]
      exact ⟨_, _, rfl, (by decide : ¬ (24 : Nat) = 19), (by decide : ¬ (24 : Nat) = 26), (by decide : ¬ (24 : Nat) = 17), (by decide : ¬ (24 : Nat) = 18)⟩
    · rw [tl_10 h]
      exact ⟨_, _, rfl, (by decide : ¬ (24 : Nat) = 19), (by decide : ¬ (24 : Nat) = 26), (by decide : ¬ (24 : Nat) = 17), (by decide : ¬ (24 : Nat) = 18)⟩
    · rw [tl_11 h]
      exact ⟨_, _, rfl, (by decide : ¬ (22 : Nat) = 19), (by decide : ¬ (22 : Nat) = 26), (by decide : ¬ (22 : Nat) = 17), (by decide : ¬ (22 : Nat) = 18)⟩
    · rw [tl_12 h]
      exact ⟨_, _, rfl, (by decide : ¬ (23 : Nat) = 19), (by decide : ¬ (23 : Nat) = 26), (by decide : ¬ (23 : Nat) = 17), (by decide : ¬ (23 : Nat) = 18)⟩
theorem ps_val {tk : Nat → Nat} {sf : Nat → Int32} {vf nm : Nat → Int64} {m : Nat} (hN : NmOk nm m) (hm : 1 ≤ m) : ∀ (u : Nat) (q : TN) (r d : Nat), q.1 = false → WfT u q → 2 * u ≤ r + 2 → r + d = 8 → Ps tk vf (sumC tk sf (valC tk sf vf nm m r d)) (tkL m u q) (stL m u q) NoOp
  | 0, _, _, _, _, hw, _, _ => (wf_0 hw).elim
  | u + 1, q, r, d, hq, hw, hr, hd => by
    obtain ⟨v, hv⟩ := vfn (tk := tk) (sf := sf) (vf := vf) (nm := nm) (m := m) r d
    have nl : ¬ kN q = 0 → nuQ m q < m := fun c => nm_lt (by omega) c
    rcases kN_v hq with h | h | h | h | h | h | h | h | h | h | h | h | h
    · rw [tl_0 h, sl_0 h]
      rw [hv]
      exact Ps.sum Ps.num
    · rw [tl_1 h, sl_1 h]
      rw [hv]
      exact Ps.sum Ps.day
    · rw [tl_2 h, sl_2 h]
      rw [hv]
      exact Ps.sum Ps.worst
    · rw [tl_3 h, sl_3 h]
      rw [hv]
      exact Ps.sum (Ps.abt12 hN (nl (by omega)))
    · rw [tl_4 h, sl_4 h]
      rw [hv]
      exact Ps.sum (Ps.abt13 hN (nl (by omega)))
    · rw [tl_5 h, sl_5 h]
      rw [hv]
      exact Ps.sum (Ps.abt14 hN (nl (by omega)))
    · rw [tl_6 h, sl_6 h]
      have iA : ∀ r d, 2 * u ≤ r + 2 → r + d = 8 → Ps tk vf (sumC tk sf (valC tk sf vf nm m r d)) (tkL m u (kdA q)) (stL m u (kdA q)) NoOp := fun r d => ps_val hN hm u _ r d (kd_v hq).1 (wf_A hw (by rw [h]; decide))
      have iB : ∀ r d, 2 * u ≤ r + 2 → r + d = 8 → Ps tk vf (sumC tk sf (valC tk sf vf nm m r d)) (tkL m u (kdB q)) (stL m u (kdB q)) NoOp := fun r d => ps_val hN hm u _ r d (kd_v hq).2 (wf_B hw (by rw [h]; decide))
      have u1 := wf_1 (wf_A hw (by rw [h]; decide))
      obtain ⟨r, rfl⟩ : ∃ r', r = r' + 2 := ⟨r - 2, by omega⟩
      exact (Ps.sum (Ps.neg (v := valC tk sf vf nm m (r + 1) (d + 1)) (by omega) (Ps.par (v := valC tk sf vf nm m r (d + 1 + 1)) (by omega) (iA r (d + 1 + 1) (by omega) (by omega))))).eqI (by simp only [List.append_assoc, List.cons_append, List.nil_append]) rfl
    · rw [tl_7 h, sl_7 h]
      have iA : ∀ r d, 2 * u ≤ r + 2 → r + d = 8 → Ps tk vf (sumC tk sf (valC tk sf vf nm m r d)) (tkL m u (kdA q)) (stL m u (kdA q)) NoOp := fun r d => ps_val hN hm u _ r d (kd_v hq).1 (wf_A hw (by rw [h]; decide))
      have iB : ∀ r d, 2 * u ≤ r + 2 → r + d = 8 → Ps tk vf (sumC tk sf (valC tk sf vf nm m r d)) (tkL m u (kdB q)) (stL m u (kdB q)) NoOp := fun r d => ps_val hN hm u _ r d (kd_v hq).2 (wf_B hw (by rw [h]; decide))
      have u1 := wf_1 (wf_A hw (by rw [h]; decide))
      obtain ⟨r, rfl⟩ : ∃ r', r = r' + 2 := ⟨r - 2, by omega⟩
      exact (Ps.op (k := 30) (x := 10) (by decide) (Ps.par (v := valC tk sf vf nm m (r + 1) (d + 1)) (by omega) (iA (r + 1) (d + 1) (by omega) (by omega))) (Ps.par (v := valC tk sf vf nm m (r + 1) (d + 1)) (by omega) (iB (r + 1) (d + 1) (by omega) (by omega)))).eqI (by simp only [List.append_assoc, List.cons_append, List.nil_append]) rfl
    · rw [tl_8 h, sl_8 h]
      have iA : ∀ r d, 2 * u ≤ r + 2 → r + d = 8 → Ps tk vf (sumC tk sf (valC tk sf vf nm m r d)) (tkL m u (kdA q)) (stL m u (kdA q)) NoOp := fun r d => ps_val hN hm u _ r d (kd_v hq).1 (wf_A hw (by rw [h]; decide))
      have iB : ∀ r d, 2 * u ≤ r + 2 → r + d = 8 → Ps tk vf (sumC tk sf (valC tk sf vf nm m r d)) (tkL m u (kdB q)) (stL m u (kdB q)) NoOp := fun r d => ps_val hN hm u _ r d (kd_v hq).2 (wf_B hw (by rw [h]; decide))
      have u1 := wf_1 (wf_A hw (by rw [h]; decide))
      obtain ⟨r, rfl⟩ : ∃ r', r = r' + 2 := ⟨r - 2, by omega⟩
      exact (Ps.op (k := 31) (x := 11) (by decide) (Ps.par (v := valC tk sf vf nm m (r + 1) (d + 1)) (by omega) (iA (r + 1) (d + 1) (by omega) (by omega))) (Ps.par (v := valC tk sf vf nm m (r + 1) (d + 1)) (by omega) (iB (r + 1) (d + 1) (by omega) (by omega)))).eqI (by simp only [List.append_assoc, List.cons_append, List.nil_append]) rfl
    · rw [tl_9 h, sl_9 h]
      have iA : ∀ r d, 2 * u ≤ r + 2 → r + d = 8 → Ps tk vf (sumC tk sf (valC tk sf vf nm m r d)) (tkL m u (kdA q)) (stL m u (kdA q)) NoOp := fun r d => ps_val hN hm u _ r d (kd_v hq).1 (wf_A hw (by rw [h]; decide))
      have iB : ∀ r d, 2 * u ≤ r + 2 → r + d = 8 → Ps tk vf (sumC tk sf (valC tk sf vf nm m r d)) (tkL m u (kdB q)) (stL m u (kdB q)) NoOp := fun r d => ps_val hN hm u _ r d (kd_v hq).2 (wf_B hw (by rw [h]; decide))
      have u1 := wf_1 (wf_A hw (by rw [h]; decide))
      obtain ⟨r, rfl⟩ : ∃ r', r = r' + 2 := ⟨r - 2, by omega⟩
      exact (Ps.op (k := 32) (x := 12) (by decide) (Ps.par (v := valC tk sf vf nm m (r + 1) (d + 1)) (by omega) (iA (r + 1) (d + 1) (by omega) (by omega))) (Ps.par (v := valC tk sf vf nm m (r + 1) (d + 1)) (by omega) (iB (r + 1) (d + 1) (by omega) (by omega)))).eqI (by simp only [List.append_assoc, List.cons_append, List.nil_append]) rfl
    · rw [tl_10 h, sl_10 h]
      have iA : ∀ r d, 2 * u ≤ r + 2 → r + d = 8 → Ps tk vf (sumC tk sf (valC tk sf vf nm m r d)) (tkL m u (kdA q)) (stL m u (kdA q)) NoOp := fun r d => ps_val hN hm u _ r d (kd_v hq).1 (wf_A hw (by rw [h]; decide))
      have iB : ∀ r d, 2 * u ≤ r + 2 → r + d = 8 → Ps tk vf (sumC tk sf (valC tk sf vf nm m r d)) (tkL m u (kdB q)) (stL m u (kdB q)) NoOp := fun r d => ps_val hN hm u _ r d (kd_v hq).2 (wf_B hw (by rw [h]; decide))
      have u1 := wf_1 (wf_A hw (by rw [h]; decide))
      obtain ⟨r, rfl⟩ : ∃ r', r = r' + 2 := ⟨r - 2, by omega⟩
      exact (Ps.op (k := 33) (x := 13) (by decide) (Ps.par (v := valC tk sf vf nm m (r + 1) (d + 1)) (by omega) (iA (r + 1) (d + 1) (by omega) (by omega))) (Ps.par (v := valC tk sf vf nm m (r + 1) (d + 1)) (by omega) (iB (r + 1) (d + 1) (by omega) (by omega)))).eqI (by simp only [List.append_assoc, List.cons_append, List.nil_append]) rfl
    · rw [tl_11 h, sl_11 h]
      have iA : ∀ r d, 2 * u ≤ r + 2 → r + d = 8 → Ps tk vf (sumC tk sf (valC tk sf vf nm m r d)) (tkL m u (kdA q)) (stL m u (kdA q)) NoOp := fun r d => ps_val hN hm u _ r d (kd_v hq).1 (wf_A hw (by rw [h]; decide))
      have iB : ∀ r d, 2 * u ≤ r + 2 → r + d = 8 → Ps tk vf (sumC tk sf (valC tk sf vf nm m r d)) (tkL m u (kdB q)) (stL m u (kdB q)) NoOp := fun r d => ps_val hN hm u _ r d (kd_v hq).2 (wf_B hw (by rw [h]; decide))
      have u1 := wf_1 (wf_A hw (by rw [h]; decide))
      obtain ⟨r, rfl⟩ : ∃ r', r = r' + 2 := ⟨r - 2, by omega⟩
      exact (Ps.sum (Ps.cho (k := 22) (x := 14) (v := valC tk sf vf nm m (r + 1) (d + 1)) (by omega) (by decide) (iA (r + 1) (d + 1) (by omega) (by omega)) (iB (r + 1) (d + 1) (by omega) (by omega)))).eqI (by simp only [List.append_assoc, List.cons_append, List.nil_append]) rfl
    · rw [tl_12 h, sl_12 h]
      have iA : ∀ r d, 2 * u ≤ r + 2 → r + d = 8 → Ps tk vf (sumC tk sf (valC tk sf vf nm m r d)) (tkL m u (kdA q)) (stL m u (kdA q)) NoOp := fun r d => ps_val hN hm u _ r d (kd_v hq).1 (wf_A hw (by rw [h]; decide))
      have iB : ∀ r d, 2 * u ≤ r + 2 → r + d = 8 → Ps tk vf (sumC tk sf (valC tk sf vf nm m r d)) (tkL m u (kdB q)) (stL m u (kdB q)) NoOp := fun r d => ps_val hN hm u _ r d (kd_v hq).2 (wf_B hw (by rw [h]; decide))
      have u1 := wf_1 (wf_A hw (by rw [h]; decide))
      obtain ⟨r, rfl⟩ : ∃ r', r = r' + 2 := ⟨r - 2, by omega⟩
      exact (Ps.sum (Ps.cho (k := 23) (x := 15) (v := valC tk sf vf nm m (r + 1) (d + 1)) (by omega) (by decide) (iA (r + 1) (d + 1) (by omega) (by omega)) (iB (r + 1) (d + 1) (by omega) (by omega)))).eqI (by simp only [List.append_assoc, List.cons_append, List.nil_append]) rfl
theorem ps_tes {tk : Nat → Nat} {sf : Nat → Int32} {vf nm : Nat → Int64} {m : Nat} (hN : NmOk nm m) (hm : 1 ≤ m) : ∀ (u : Nat) (q : TN) (r d : Nat), q.1 = true → WfT u q → 2 * u ≤ r + 2 → r + d = 8 → Ps tk vf (testC tk sf (sglC tk sf vf nm m r d)) (tkL m u q) (stL m u q) NoTs
  | 0, _, _, _, _, hw, _, _ => (wf_0 hw).elim
  | u + 1, q, r, d, hq, hw, hr, hd => by
    obtain ⟨v, hv⟩ := sgn_ (tk := tk) (sf := sf) (vf := vf) (nm := nm) (m := m) r d
    have nl : ¬ kN q = 0 → nuQ m q < m := fun c => nm_lt (by omega) c
    rcases kN_t hq with h | h | h | h | h | h | h | h | h | h
    · rw [tl_20 h, sl_20 h]
      have iA := ps_val (tk := tk) (sf := sf) (vf := vf) hN hm u _ r d (kd_c hq (by omega)).1 (wf_A hw (by rw [h]; decide)) (by omega) hd
      have iB := ps_val (tk := tk) (sf := sf) (vf := vf) hN hm u _ r d (kd_c hq (by omega)).2 (wf_B hw (by rw [h]; decide)) (by omega) hd
      rw [hv]
      exact (Ps.ts (Ps.cmp (k := 34) (x := 16) ⟨by decide, by decide, by decide, by decide, by decide, by decide⟩ iA iB (hd_val (kd_c hq (by omega)).1 (wf_A hw (by rw [h]; decide))))).eqI (by simp only [List.append_assoc, List.cons_append, List.nil_append]) rfl
    · rw [tl_21 h, sl_21 h]
      have iA := ps_val (tk := tk) (sf := sf) (vf := vf) hN hm u _ r d (kd_c hq (by omega)).1 (wf_A hw (by rw [h]; decide)) (by omega) hd
      have iB := ps_val (tk := tk) (sf := sf) (vf := vf) hN hm u _ r d (kd_c hq (by omega)).2 (wf_B hw (by rw [h]; decide)) (by omega) hd
      rw [hv]
      exact (Ps.ts (Ps.cmp (k := 35) (x := 17) ⟨by decide, by decide, by decide, by decide, by decide, by decide⟩ iA iB (hd_val (kd_c hq (by omega)).1 (wf_A hw (by rw [h]; decide))))).eqI (by simp only [List.append_assoc, List.cons_append, List.nil_append]) rfl
    · rw [tl_22 h, sl_22 h]
      have iA := ps_val (tk := tk) (sf := sf) (vf := vf) hN hm u _ r d (kd_c hq (by omega)).1 (wf_A hw (by rw [h]; decide)) (by omega) hd
      have iB := ps_val (tk := tk) (sf := sf) (vf := vf) hN hm u _ r d (kd_c hq (by omega)).2 (wf_B hw (by rw [h]; decide)) (by omega) hd
      rw [hv]
      exact (Ps.ts (Ps.cmp (k := 36) (x := 18) ⟨by decide, by decide, by decide, by decide, by decide, by decide⟩ iA iB (hd_val (kd_c hq (by omega)).1 (wf_A hw (by rw [h]; decide))))).eqI (by simp only [List.append_assoc, List.cons_append, List.nil_append]) rfl
    · rw [tl_23 h, sl_23 h]
      have iA := ps_val (tk := tk) (sf := sf) (vf := vf) hN hm u _ r d (kd_c hq (by omega)).1 (wf_A hw (by rw [h]; decide)) (by omega) hd
      have iB := ps_val (tk := tk) (sf := sf) (vf := vf) hN hm u _ r d (kd_c hq (by omega)).2 (wf_B hw (by rw [h]; decide)) (by omega) hd
      rw [hv]
      exact (Ps.ts (Ps.cmp (k := 37) (x := 19) ⟨by decide, by decide, by decide, by decide, by decide, by decide⟩ iA iB (hd_val (kd_c hq (by omega)).1 (wf_A hw (by rw [h]; decide))))).eqI (by simp only [List.append_assoc, List.cons_append, List.nil_append]) rfl
    · rw [tl_24 h, sl_24 h]
      have iA := ps_val (tk := tk) (sf := sf) (vf := vf) hN hm u _ r d (kd_c hq (by omega)).1 (wf_A hw (by rw [h]; decide)) (by omega) hd
      have iB := ps_val (tk := tk) (sf := sf) (vf := vf) hN hm u _ r d (kd_c hq (by omega)).2 (wf_B hw (by rw [h]; decide)) (by omega) hd
      rw [hv]
      exact (Ps.ts (Ps.cmp (k := 38) (x := 20) ⟨by decide, by decide, by decide, by decide, by decide, by decide⟩ iA iB (hd_val (kd_c hq (by omega)).1 (wf_A hw (by rw [h]; decide))))).eqI (by simp only [List.append_assoc, List.cons_append, List.nil_append]) rfl
    · rw [tl_25 h, sl_25 h]
      rw [hv]
      exact Ps.ts (Ps.mono (Ps.sha hN (nl (by omega)) (ot_lt (by omega) q)) (fun _ _ => trivial))
    · rw [tl_26 h, sl_26 h]
      rw [hv]
      exact Ps.ts (Ps.mono (Ps.drk hN (nl (by omega))) (fun _ _ => trivial))
    · rw [tl_29 h, sl_29 h]
      have iA : ∀ r d, 2 * u ≤ r + 2 → r + d = 8 → Ps tk vf (testC tk sf (sglC tk sf vf nm m r d)) (tkL m u (kdA q)) (stL m u (kdA q)) NoTs := fun r d => ps_tes hN hm u _ r d (kd_t hq (by omega)).1 (wf_A hw (by rw [h]; decide))
      have iB : ∀ r d, 2 * u ≤ r + 2 → r + d = 8 → Ps tk vf (testC tk sf (sglC tk sf vf nm m r d)) (tkL m u (kdB q)) (stL m u (kdB q)) NoTs := fun r d => ps_tes hN hm u _ r d (kd_t hq (by omega)).2 (wf_B hw (by rw [h]; decide))
      have u1 := wf_1 (wf_A hw (by rw [h]; decide))
      obtain ⟨r, rfl⟩ : ∃ r', r = r' + 2 := ⟨r - 2, by omega⟩
      exact (Ps.ts (Ps.mono (Ps.not (u := sglC tk sf vf nm m (r + 1) (d + 1)) (by omega) (Ps.bra (u := sglC tk sf vf nm m r (d + 1 + 1)) (by omega) (iA r (d + 1 + 1) (by omega) (by omega)))) (fun _ _ => trivial))).eqI (by simp only [List.append_assoc, List.cons_append, List.nil_append]) rfl
    · rw [tl_30 h, sl_30 h]
      have iA : ∀ r d, 2 * u ≤ r + 2 → r + d = 8 → Ps tk vf (testC tk sf (sglC tk sf vf nm m r d)) (tkL m u (kdA q)) (stL m u (kdA q)) NoTs := fun r d => ps_tes hN hm u _ r d (kd_t hq (by omega)).1 (wf_A hw (by rw [h]; decide))
      have iB : ∀ r d, 2 * u ≤ r + 2 → r + d = 8 → Ps tk vf (testC tk sf (sglC tk sf vf nm m r d)) (tkL m u (kdB q)) (stL m u (kdB q)) NoTs := fun r d => ps_tes hN hm u _ r d (kd_t hq (by omega)).2 (wf_B hw (by rw [h]; decide))
      have u1 := wf_1 (wf_A hw (by rw [h]; decide))
      obtain ⟨r, rfl⟩ : ∃ r', r = r' + 2 := ⟨r - 2, by omega⟩
      exact (Ps.top (k := 20) (x := 21) (by decide) (Ps.bra (u := sglC tk sf vf nm m (r + 1) (d + 1)) (by omega) (iA (r + 1) (d + 1) (by omega) (by omega))) (Ps.bra (u := sglC tk sf vf nm m (r + 1) (d + 1)) (by omega) (iB (r + 1) (d + 1) (by omega) (by omega)))).eqI (by simp only [List.append_assoc, List.cons_append, List.nil_append]) rfl
    · rw [tl_31 h, sl_31 h]
      have iA : ∀ r d, 2 * u ≤ r + 2 → r + d = 8 → Ps tk vf (testC tk sf (sglC tk sf vf nm m r d)) (tkL m u (kdA q)) (stL m u (kdA q)) NoTs := fun r d => ps_tes hN hm u _ r d (kd_t hq (by omega)).1 (wf_A hw (by rw [h]; decide))
      have iB : ∀ r d, 2 * u ≤ r + 2 → r + d = 8 → Ps tk vf (testC tk sf (sglC tk sf vf nm m r d)) (tkL m u (kdB q)) (stL m u (kdB q)) NoTs := fun r d => ps_tes hN hm u _ r d (kd_t hq (by omega)).2 (wf_B hw (by rw [h]; decide))
      have u1 := wf_1 (wf_A hw (by rw [h]; decide))
      obtain ⟨r, rfl⟩ : ∃ r', r = r' + 2 := ⟨r - 2, by omega⟩
      exact (Ps.top (k := 21) (x := 22) (by decide) (Ps.bra (u := sglC tk sf vf nm m (r + 1) (d + 1)) (by omega) (iA (r + 1) (d + 1) (by omega) (by omega))) (Ps.bra (u := sglC tk sf vf nm m (r + 1) (d + 1)) (by omega) (iB (r + 1) (d + 1) (by omega) (by omega)))).eqI (by simp only [List.append_assoc, List.cons_append, List.nil_append]) rfl
