/-! The class's lexer over the told text. -/
def hdT (l : List Nat) : Nat := l.headD 256
/-- a sign, or none behind the end -/
def sB (c : Nat) : Int32 := if c = 256 then -1 else nI c
theorem runL_is {q : Nat → Bool} {s f n : Nat} (h1 : ∀ k, k < n → q (s + k) = true) (h2 : q (s + n) = false) (hn : n ≤ f) : runL q s f = n := by
  have hle := runL_le (q := q) (s := s) (f := f)
  rcases Nat.lt_trichotomy (runL q s f) n with c | c | c
  · have e := runL_end (q := q) (s := s) (f := f) (by omega)
    rw [h1 _ c] at e
    cases e
  · exact c
  · have e := runL_in (q := q) (s := s) (f := f) c
    rw [h2] at e
    cases e
/-- the tape holds T -/
def TpOk (T : List Nat) (tb : Nat → Int32) : Prop := ∀ i, i < 100000 → sgN T.length tb i = if i < T.length then nI (T.getD i 0) else -1
theorem tp_told {T : List Nat} (hT : ∀ i, T.getD i 32 < 128) (hl : T.length ≤ 1900) : TpOk T (tbT T ((T.length + 19) / 20)) := fun i hi => tbT_sg hT (by omega) (by omega) hi
theorem drop_hd {T : List Nat} {i : Nat} (hi : i < T.length) : T.getD i 0 = hdT (T.drop i) := by
  unfold hdT
  rw [List.getD_eq_getElem?_getD, List.headD_eq_head?_getD, List.head?_drop, List.getElem?_eq_getElem hi]
  rfl
theorem drop_no {T : List Nat} {i : Nat} (hi : ¬ i < T.length) : hdT (T.drop i) = 256 := by
  unfold hdT
  rw [List.drop_eq_nil_of_le (by omega)]
  rfl
theorem sg_hd {T : List Nat} {tb : Nat → Int32} (h : TpOk T tb) (h8 : Sml T) {i : Nat} (hi : i < 100000) : sgN T.length tb i = sB (hdT (T.drop i)) := by
  rw [h i hi, sB]
  by_cases c : i < T.length
  · have e : hdT (T.drop i) < 128 := by
      rw [← drop_hd c]
      rw [List.getD_eq_getElem?_getD, List.getElem?_eq_getElem c]
      exact h8 _ (List.getElem_mem c)
    rw [if_pos c, if_neg (by omega), drop_hd c]
  · rw [if_neg c, drop_no c, if_pos rfl]
/-- the sign at a place of a row that begins at s -/
theorem sg_row {T : List Nat} {tb : Nat → Int32} (h : TpOk T tb) (h8 : Sml T) {s : Nat} {w r : List Nat} (hd : T.drop s = w ++ r) (hs : s + w.length < 100000) : (∀ k, k < w.length → sgN T.length tb (s + k) = nI (w.getD k 0) ∧ w.getD k 0 < 128) ∧ sgN T.length tb (s + w.length) = sB (hdT r) := by
  have key : ∀ k, k ≤ w.length → T.drop (s + k) = w.drop k ++ r := fun k hk => by
    rw [← List.drop_drop, hd, List.drop_append_of_le_length hk]
  refine ⟨fun k hk => ?_, ?_⟩
  · have e : hdT (T.drop (s + k)) = w.getD k 0 := by
      rw [key k (by omega), hdT, List.headD_eq_head?_getD, List.getD_eq_getElem?_getD, List.getElem?_eq_getElem hk, List.head?_append, List.head?_drop, List.getElem?_eq_getElem hk]
      rfl
    have hm : w.getD k 0 < 128 := by
      rw [List.getD_eq_getElem?_getD, List.getElem?_eq_getElem hk]
      refine h8 _ (List.mem_of_mem_drop (i := s) ?_)
      rw [hd]
      exact List.mem_append_left _ (List.getElem_mem hk)
    rw [sg_hd h h8 (by omega), e, sB, if_neg (by omega)]
    exact ⟨rfl, hm⟩
  · rw [sg_hd h h8 (by omega), key _ (Nat.le_refl _), List.drop_length]
    rfl
/-- a word's number, a number's -/
def wV : List Nat → Int64 → Int64
  | [], v => v
  | c :: w, v => wV w (lnF v (nI c))
def nV : List Nat → Int64 → Int64
  | [], v => v
  | c :: w, v => nV w (v * 10 + (nI c - 48).toInt64)
theorem wV_snoc (w : List Nat) (c : Nat) : ∀ v, wV (w ++ [c]) v = lnF (wV w v) (nI c) := by
  induction w with
  | nil => intro v; rfl
  | cons a w ih => intro v; exact ih _
theorem nV_snoc (w : List Nat) (c : Nat) : ∀ v, nV (w ++ [c]) v = nV w v * 10 + (nI c - 48).toInt64 := by
  induction w with
  | nil => intro v; rfl
  | cons a w ih => intro v; exact ih _
theorem take_s {w : List Nat} {k : Nat} (hk : k < w.length) : w.take (k + 1) = w.take k ++ [w.getD k 0] := by
  rw [List.take_add_one, List.getD_eq_getElem?_getD, List.getElem?_eq_getElem hk]
  rfl
theorem wVal_is {m : Nat} {tb : Nat → Int32} {s : Nat} {w : List Nat} (h : ∀ k, k < w.length → sgN m tb (s + k) = nI (w.getD k 0)) : ∀ k, k ≤ w.length → wVal m tb s k = wV (w.take k) 0
  | 0, _ => rfl
  | k + 1, hk => by rw [wVal, wVal_is h k (by omega), h k (by omega), take_s (by omega), wV_snoc]
theorem nVal_is {m : Nat} {tb : Nat → Int32} {s : Nat} {w : List Nat} (h : ∀ k, k < w.length → sgN m tb (s + k) = nI (w.getD k 0)) : ∀ k, k ≤ w.length → nVal m tb s k = nV (w.take k) 0
  | 0, _ => rfl
  | k + 1, hk => by rw [nVal, nVal_is h k (by omega), h k (by omega), take_s (by omega), nV_snoc]
/-- a token: its signs, the blanks behind it, its kind, its value -/
abbrev It : Type := List Nat × List Nat × Nat × Int64
def wdOk (w : List Nat) (nx : Int32) (k : Nat) (v : Int64) : Prop := isLet (nI (w.getD 0 0)) = true ∧ (∀ c, c ∈ w → (isLet (nI c) || isDig (nI c)) = true) ∧ w.length ≤ 10 ∧ (isLet nx || isDig nx) = false ∧ ((kwO (wV w 0) = some k ∧ v = 0) ∨ (kwO (wV w 0) = none ∧ k = 39 ∧ v = wV w 0))
def nmOk (w : List Nat) (nx : Int32) (k : Nat) (v : Int64) : Prop := (∀ c, c ∈ w → isDig (nI c) = true) ∧ w.length ≤ 6 ∧ isDig nx = false ∧ k = 40 ∧ v = nV w 0
def syOk (w : List Nat) (nx : Int32) (k : Nat) (v : Int64) : Prop := v = 0 ∧ ((∃ c, w = [c] ∧ isLet (nI c) = false ∧ isDig (nI c) = false ∧ ¬ (nx = 61 ∧ (c = 60 ∨ c = 62)) ∧ symK (nI c) = k ∧ ¬ k = 42) ∨ (w = [60, 61] ∧ k = 37) ∨ (w = [62, 61] ∧ k = 38))
def flI : List It → List Nat
  | [] => []
  | it :: r => (it.1 ++ it.2.1) ++ flI r
def ItOk (it : It) (r : List Nat) : Prop := 0 < it.1.length ∧ isBl (nI (it.1.getD 0 0)) = false ∧ (∀ c, c ∈ it.2.1 → isBl (nI c) = true) ∧ (wdOk it.1 (sB (hdT (it.2.1 ++ r))) it.2.2.1 it.2.2.2 ∨ nmOk it.1 (sB (hdT (it.2.1 ++ r))) it.2.2.1 it.2.2.2 ∨ syOk it.1 (sB (hdT (it.2.1 ++ r))) it.2.2.1 it.2.2.2)
def ItsOk : List It → Prop
  | [] => True
  | it :: r => ItOk it (flI r) ∧ ItsOk r
