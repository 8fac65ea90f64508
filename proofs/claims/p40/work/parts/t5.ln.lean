/-! Lines. -/
theorem stL_len (n : Nat) : ∀ (u : Nat) (q : TN), (stL n u q).length + 1 ≤ 2 ^ u
  | 0, _ => Nat.le_refl _
  | u + 1, q => by
    have hA := stL_len n u (kdA q)
    have hB := stL_len n u (kdB q)
    have hp : 2 ^ (u + 1) = 2 ^ u + 2 ^ u := by rw [Nat.pow_succ]; omega
    rcases kN_all q with h | h | h | h | h | h | h | h | h | h | h | h | h | h | h | h | h | h | h | h | h | h | h
    · rw [sl_0 h]
      simp only [List.length_append, List.length_cons, List.length_nil]
      omega
    · rw [sl_1 h]
      simp only [List.length_append, List.length_cons, List.length_nil]
      omega
    · rw [sl_2 h]
      simp only [List.length_append, List.length_cons, List.length_nil]
      omega
    · rw [sl_3 h]
      simp only [List.length_append, List.length_cons, List.length_nil]
      omega
    · rw [sl_4 h]
      simp only [List.length_append, List.length_cons, List.length_nil]
      omega
    · rw [sl_5 h]
      simp only [List.length_append, List.length_cons, List.length_nil]
      omega
    · rw [sl_6 h]
      simp only [List.length_append, List.length_cons, List.length_nil]
      omega
    · rw [sl_7 h]
      simp only [List.length_append, List.length_cons, List.length_nil]
      omega
    · rw [sl_8 h]
      simp only [List.length_append, List.length_cons, List.length_nil]
      omega
    · rw [sl_9 h]
      simp only [List.length_append, List.length_cons, List.length_nil]
      omega
    · rw [sl_10 h]
      simp only [List.length_append, List.length_cons, List.length_nil]
      omega
    · rw [sl_11 h]
      simp only [List.length_append, List.length_cons, List.length_nil]
      omega
    · rw [sl_12 h]
      simp only [List.length_append, List.length_cons, List.length_nil]
      omega
    · rw [sl_20 h]
      simp only [List.length_append, List.length_cons, List.length_nil]
      omega
    · rw [sl_21 h]
      simp only [List.length_append, List.length_cons, List.length_nil]
      omega
    · rw [sl_22 h]
      simp only [List.length_append, List.length_cons, List.length_nil]
      omega
    · rw [sl_23 h]
      simp only [List.length_append, List.length_cons, List.length_nil]
      omega
    · rw [sl_24 h]
      simp only [List.length_append, List.length_cons, List.length_nil]
      omega
    · rw [sl_25 h]
      simp only [List.length_append, List.length_cons, List.length_nil]
      omega
    · rw [sl_26 h]
      simp only [List.length_append, List.length_cons, List.length_nil]
      omega
    · rw [sl_29 h]
      simp only [List.length_append, List.length_cons, List.length_nil]
      omega
    · rw [sl_30 h]
      simp only [List.length_append, List.length_cons, List.length_nil]
      omega
    · rw [sl_31 h]
      simp only [List.length_append, List.length_cons, List.length_nil]
      omega
theorem stL_pos (n : Nat) {u : Nat} {q : TN} (hw : WfT u q) : 0 < (stL n u q).length := by
  cases u with
  | zero => exact (wf_0 hw).elim
  | succ u =>
    rcases kN_all q with h | h | h | h | h | h | h | h | h | h | h | h | h | h | h | h | h | h | h | h | h | h | h
    · rw [sl_0 h]
      simp only [List.length_append, List.length_cons, List.length_nil]
      omega
    · rw [sl_1 h]
      simp only [List.length_append, List.length_cons, List.length_nil]
      omega
    · rw [sl_2 h]
      simp only [List.length_append, List.length_cons, List.length_nil]
      omega
    · rw [sl_3 h]
      simp only [List.length_append, List.length_cons, List.length_nil]
      omega
    · rw [sl_4 h]
      simp only [List.length_append, List.length_cons, List.length_nil]
      omega
    · rw [sl_5 h]
      simp only [List.length_append, List.length_cons, List.length_nil]
      omega
    · rw [sl_6 h]
      simp only [List.length_append, List.length_cons, List.length_nil]
      omega
    · rw [sl_7 h]
      simp only [List.length_append, List.length_cons, List.length_nil]
      omega
    · rw [sl_8 h]
      simp only [List.length_append, List.length_cons, List.length_nil]
      omega
    · rw [sl_9 h]
      simp only [List.length_append, List.length_cons, List.length_nil]
      omega
    · rw [sl_10 h]
      simp only [List.length_append, List.length_cons, List.length_nil]
      omega
    · rw [sl_11 h]
      simp only [List.length_append, List.length_cons, List.length_nil]
      omega
    · rw [sl_12 h]
      simp only [List.length_append, List.length_cons, List.length_nil]
      omega
    · rw [sl_20 h]
      simp only [List.length_append, List.length_cons, List.length_nil]
      omega
    · rw [sl_21 h]
      simp only [List.length_append, List.length_cons, List.length_nil]
      omega
    · rw [sl_22 h]
      simp only [List.length_append, List.length_cons, List.length_nil]
      omega
    · rw [sl_23 h]
      simp only [List.length_append, List.length_cons, List.length_nil]
      omega
    · rw [sl_24 h]
      simp only [List.length_append, List.length_cons, List.length_nil]
      omega
    · rw [sl_25 h]
      simp only [List.length_append, List.length_cons, List.length_nil]
      omega
    · rw [sl_26 h]
      simp only [List.length_append, List.length_cons, List.length_nil]
      omega
    · rw [sl_29 h]
      simp only [List.length_append, List.length_cons, List.length_nil]
      omega
    · rw [sl_30 h]
      simp only [List.length_append, List.length_cons, List.length_nil]
      omega
    · rw [sl_31 h]
      simp only [List.length_append, List.length_cons, List.length_nil]
      omega
theorem kd_dep {q : TN} : (kdA q).2.2 = q.2.2 + 1 ∧ (kdB q).2.2 = q.2.2 + 1 := by
  obtain ⟨b, x, d⟩ := q
  cases b with
  | false => exact ⟨rfl, rfl⟩
  | true =>
    by_cases c : kT x d < 25
    · have e2 : kdA (true, x, d) = (false, x * 3 + 7, d + 1) := if_pos c
      have e3 : kdB (true, x, d) = (false, x * 5 + 1, d + 1) := if_pos c
      rw [e2, e3]
      exact ⟨rfl, rfl⟩
    · have e2 : kdA (true, x, d) = (true, x * 3 + 5, d + 1) := if_neg c
      have e3 : kdB (true, x, d) = (true, x * 7 + 3, d + 1) := if_neg c
      rw [e2, e3]
      exact ⟨rfl, rfl⟩
theorem tkl_v2 (n : Nat) {q : TN} (u : Nat) (hq : q.1 = false) (hd : 1 < q.2.2) : (tkL n (u + 1) q).length ≤ 3 := by
  have e : kN q = kS q.2.1 q.2.2 := by rw [kN, hq]; rfl
  have e2 := kS_deep (x := q.2.1) hd
  rcases kN_v hq with h | h | h | h | h | h | h | h | h | h | h | h | h
  · first
      | omega
      | (rw [tl_0 (u := u) h]; simp only [List.length_append, List.length_cons, List.length_nil]; omega)
  · first
      | omega
      | (rw [tl_1 (u := u) h]; simp only [List.length_append, List.length_cons, List.length_nil]; omega)
  · first
      | omega
      | (rw [tl_2 (u := u) h]; simp only [List.length_append, List.length_cons, List.length_nil]; omega)
  · first
      | omega
      | (rw [tl_3 (u := u) h]; simp only [List.length_append, List.length_cons, List.length_nil]; omega)
  · first
      | omega
      | (rw [tl_4 (u := u) h]; simp only [List.length_append, List.length_cons, List.length_nil]; omega)
  · first
      | omega
      | (rw [tl_5 (u := u) h]; simp only [List.length_append, List.length_cons, List.length_nil]; omega)
  · first
      | omega
      | (rw [tl_6 (u := u) h]; simp only [List.length_append, List.length_cons, List.length_nil]; omega)
  · first
      | omega
      | (rw [tl_7 (u := u) h]; simp only [List.length_append, List.length_cons, List.length_nil]; omega)
  · first
      | omega
      | (rw [tl_8 (u := u) h]; simp only [List.length_append, List.length_cons, List.length_nil]; omega)
  · first
      | omega
      | (rw [tl_9 (u := u) h]; simp only [List.length_append, List.length_cons, List.length_nil]; omega)
  · first
      | omega
      | (rw [tl_10 (u := u) h]; simp only [List.length_append, List.length_cons, List.length_nil]; omega)
  · first
      | omega
      | (rw [tl_11 (u := u) h]; simp only [List.length_append, List.length_cons, List.length_nil]; omega)
  · first
      | omega
      | (rw [tl_12 (u := u) h]; simp only [List.length_append, List.length_cons, List.length_nil]; omega)
theorem tkl_v1 (n : Nat) {q : TN} (u : Nat) (hq : q.1 = false) (hd : 0 < q.2.2) : (tkL n (u + 1 + 1) q).length ≤ 11 := by
  have a1 := tkl_v2 n (q := kdA q) u (kd_v hq).1 (by rw [kd_dep.1]; omega)
  have a2 := tkl_v2 n (q := kdB q) u (kd_v hq).2 (by rw [kd_dep.2]; omega)
  rcases kN_v hq with h | h | h | h | h | h | h | h | h | h | h | h | h
  · first
      | omega
      | (rw [tl_0 (u := u + 1) h]; simp only [List.length_append, List.length_cons, List.length_nil]; omega)
  · first
      | omega
      | (rw [tl_1 (u := u + 1) h]; simp only [List.length_append, List.length_cons, List.length_nil]; omega)
  · first
      | omega
      | (rw [tl_2 (u := u + 1) h]; simp only [List.length_append, List.length_cons, List.length_nil]; omega)
  · first
      | omega
      | (rw [tl_3 (u := u + 1) h]; simp only [List.length_append, List.length_cons, List.length_nil]; omega)
  · first
      | omega
      | (rw [tl_4 (u := u + 1) h]; simp only [List.length_append, List.length_cons, List.length_nil]; omega)
  · first
      | omega
      | (rw [tl_5 (u := u + 1) h]; simp only [List.length_append, List.length_cons, List.length_nil]; omega)
  · first
      | omega
      | (rw [tl_6 (u := u + 1) h]; simp only [List.length_append, List.length_cons, List.length_nil]; omega)
  · first
      | omega
      | (rw [tl_7 (u := u + 1) h]; simp only [List.length_append, List.length_cons, List.length_nil]; omega)
  · first
      | omega
      | (rw [tl_8 (u := u + 1) h]; simp only [List.length_append, List.length_cons, List.length_nil]; omega)
  · first
      | omega
      | (rw [tl_9 (u := u + 1) h]; simp only [List.length_append, List.length_cons, List.length_nil]; omega)
  · first
      | omega
      | (rw [tl_10 (u := u + 1) h]; simp only [List.length_append, List.length_cons, List.length_nil]; omega)
  · first
      | omega
      | (rw [tl_11 (u := u + 1) h]; simp only [List.length_append, List.length_cons, List.length_nil]; omega)
  · first
      | omega
      | (rw [tl_12 (u := u + 1) h]; simp only [List.length_append, List.length_cons, List.length_nil]; omega)
theorem tkl_t2 (n : Nat) {q : TN} (u : Nat) (hq : q.1 = true) (hd : 1 < q.2.2) : (tkL n (u + 1 + 1) q).length ≤ 7 := by
  have e : kN q = kT q.2.1 q.2.2 := by rw [kN, hq]; rfl
  have e2 := kT_deep (x := q.2.1) hd
  have a1 : kN q < 25 → (tkL n (u + 1) (kdA q)).length ≤ 3 := fun c => tkl_v2 n u (kd_c hq c).1 (by rw [kd_dep.1]; omega)
  have a2 : kN q < 25 → (tkL n (u + 1) (kdB q)).length ≤ 3 := fun c => tkl_v2 n u (kd_c hq c).2 (by rw [kd_dep.2]; omega)
  rcases kN_t hq with h | h | h | h | h | h | h | h | h | h
  · first
      | omega
      | (rw [tl_20 (u := u + 1) h]; simp only [List.length_append, List.length_cons, List.length_nil]; omega)
  · first
      | omega
      | (rw [tl_21 (u := u + 1) h]; simp only [List.length_append, List.length_cons, List.length_nil]; omega)
  · first
      | omega
      | (rw [tl_22 (u := u + 1) h]; simp only [List.length_append, List.length_cons, List.length_nil]; omega)
  · first
      | omega
      | (rw [tl_23 (u := u + 1) h]; simp only [List.length_append, List.length_cons, List.length_nil]; omega)
  · first
      | omega
      | (rw [tl_24 (u := u + 1) h]; simp only [List.length_append, List.length_cons, List.length_nil]; omega)
  · first
      | omega
      | (rw [tl_25 (u := u + 1) h]; simp only [List.length_append, List.length_cons, List.length_nil]; omega)
  · first
      | omega
      | (rw [tl_26 (u := u + 1) h]; simp only [List.length_append, List.length_cons, List.length_nil]; omega)
  · first
      | omega
      | (rw [tl_29 (u := u + 1) h]; simp only [List.length_append, List.length_cons, List.length_nil]; omega)
  · first
      | omega
      | (rw [tl_30 (u := u + 1) h]; simp only [List.length_append, List.length_cons, List.length_nil]; omega)
  · first
      | omega
      | (rw [tl_31 (u := u + 1) h]; simp only [List.length_append, List.length_cons, List.length_nil]; omega)
theorem tkl_t1 (n : Nat) {q : TN} (u : Nat) (hq : q.1 = true) (hd : 0 < q.2.2) : (tkL n (u + 1 + 1 + 1) q).length ≤ 19 := by
  have a1 : kN q < 25 → (tkL n (u + 1 + 1) (kdA q)).length ≤ 3 := fun c => tkl_v2 n (u + 1) (kd_c hq c).1 (by rw [kd_dep.1]; omega)
  have a2 : kN q < 25 → (tkL n (u + 1 + 1) (kdB q)).length ≤ 3 := fun c => tkl_v2 n (u + 1) (kd_c hq c).2 (by rw [kd_dep.2]; omega)
  have b1 : ¬ kN q < 25 → (tkL n (u + 1 + 1) (kdA q)).length ≤ 7 := fun c => tkl_t2 n u (kd_t hq c).1 (by rw [kd_dep.1]; omega)
  have b2 : ¬ kN q < 25 → (tkL n (u + 1 + 1) (kdB q)).length ≤ 7 := fun c => tkl_t2 n u (kd_t hq c).2 (by rw [kd_dep.2]; omega)
  rcases kN_t hq with h | h | h | h | h | h | h | h | h | h
  · first
      | omega
      | (rw [tl_20 (u := u + 1 + 1) h]; simp only [List.length_append, List.length_cons, List.length_nil]; omega)
  · first
      | omega
      | (rw [tl_21 (u := u + 1 + 1) h]; simp only [List.length_append, List.length_cons, List.length_nil]; omega)
  · first
      | omega
      | (rw [tl_22 (u := u + 1 + 1) h]; simp only [List.length_append, List.length_cons, List.length_nil]; omega)
  · first
      | omega
      | (rw [tl_23 (u := u + 1 + 1) h]; simp only [List.length_append, List.length_cons, List.length_nil]; omega)
  · first
      | omega
      | (rw [tl_24 (u := u + 1 + 1) h]; simp only [List.length_append, List.length_cons, List.length_nil]; omega)
  · first
      | omega
      | (rw [tl_25 (u := u + 1 + 1) h]; simp only [List.length_append, List.length_cons, List.length_nil]; omega)
  · first
      | omega
      | (rw [tl_26 (u := u + 1 + 1) h]; simp only [List.length_append, List.length_cons, List.length_nil]; omega)
  · first
      | omega
      | (rw [tl_29 (u := u + 1 + 1) h]; simp only [List.length_append, List.length_cons, List.length_nil]; omega)
  · first
      | omega
      | (rw [tl_30 (u := u + 1 + 1) h]; simp only [List.length_append, List.length_cons, List.length_nil]; omega)
  · first
      | omega
      | (rw [tl_31 (u := u + 1 + 1) h]; simp only [List.length_append, List.length_cons, List.length_nil]; omega)
theorem tkl_t0 (n : Nat) {q : TN} (u : Nat) (hq : q.1 = true) : (tkL n (u + 1 + 1 + 1 + 1) q).length ≤ 43 := by
  have a1 : kN q < 25 → (tkL n (u + 1 + 1 + 1) (kdA q)).length ≤ 11 := fun c => tkl_v1 n (u + 1) (kd_c hq c).1 (by rw [kd_dep.1]; omega)
  have a2 : kN q < 25 → (tkL n (u + 1 + 1 + 1) (kdB q)).length ≤ 11 := fun c => tkl_v1 n (u + 1) (kd_c hq c).2 (by rw [kd_dep.2]; omega)
  have b1 : ¬ kN q < 25 → (tkL n (u + 1 + 1 + 1) (kdA q)).length ≤ 19 := fun c => tkl_t1 n u (kd_t hq c).1 (by rw [kd_dep.1]; omega)
  have b2 : ¬ kN q < 25 → (tkL n (u + 1 + 1 + 1) (kdB q)).length ≤ 19 := fun c => tkl_t1 n u (kd_t hq c).2 (by rw [kd_dep.2]; omega)
  rcases kN_t hq with h | h | h | h | h | h | h | h | h | h
  · first
      | omega
      | (rw [tl_20 (u := u + 1 + 1 + 1) h]; simp only [List.length_append, List.length_cons, List.length_nil]; omega)
  · first
      | omega
      | (rw [tl_21 (u := u + 1 + 1 + 1) h]; simp only [List.length_append, List.length_cons, List.length_nil]; omega)
  · first
      | omega
      | (rw [tl_22 (u := u + 1 + 1 + 1) h]; simp only [List.length_append, List.length_cons, List.length_nil]; omega)
  · first
      | omega
      | (rw [tl_23 (u := u + 1 + 1 + 1) h]; simp only [List.length_append, List.length_cons, List.length_nil]; omega)
  · first
      | omega
      | (rw [tl_24 (u := u + 1 + 1 + 1) h]; simp only [List.length_append, List.length_cons, List.length_nil]; omega)
  · first
      | omega
      | (rw [tl_25 (u := u + 1 + 1 + 1) h]; simp only [List.length_append, List.length_cons, List.length_nil]; omega)
  · first
      | omega
      | (rw [tl_26 (u := u + 1 + 1 + 1) h]; simp only [List.length_append, List.length_cons, List.length_nil]; omega)
  · first
      | omega
      | (rw [tl_29 (u := u + 1 + 1 + 1) h]; simp only [List.length_append, List.length_cons, List.length_nil]; omega)
  · first
      | omega
      | (rw [tl_30 (u := u + 1 + 1 + 1) h]; simp only [List.length_append, List.length_cons, List.length_nil]; omega)
  · first
      | omega
      | (rw [tl_31 (u := u + 1 + 1 + 1) h]; simp only [List.length_append, List.length_cons, List.length_nil]; omega)
theorem wf_one (Z : GZ) (k : Nat) : WfT 2 (oneQ Z k) ∧ WfT 2 (twoQ Z k) ∧ WfT 4 (tesQ Z k) := ⟨⟨by show 3 ≤ 2 + 1; omega, by omega⟩, ⟨by show 3 ≤ 2 + 1; omega, by omega⟩, ⟨by show 4 ≤ 4 + 0; omega, by omega⟩⟩
/-- a house's tokens -/
def hsI (Z : GZ) (k : Nat) : List (Nat × Int64) := [(0, 0), (39, hV k), (1, 0), (40, Int64.ofNat (toP Z k)), (2, 0), (40, Int64.ofNat (toH Z k)), (28, 0)]
def hsR (Z : GZ) : Nat → List (Nat × Int64)
  | 0 => []
  | k + 1 => hsR Z k ++ hsI Z k
def whI (Z : GZ) (k : Nat) : List (Nat × Int64) := if hasT Z k = true then (10, 0) :: tkL (toN Z) 4 (tesQ Z k) else []
/-- an order's tokens -/
def orI (Z : GZ) (k : Nat) : List (Nat × Int64) := if toK Z k = 0 then (4, 0) :: (39, hV (toV Z k)) :: (5, 0) :: (tkL (toN Z) 2 (oneQ Z k) ++ (6, 0) :: tkL (toN Z) 2 (twoQ Z k)) else if toK Z k = 1 then [(7, 0), (39, hV (toV Z k))] else (8, 0) :: (39, hV (toV Z k)) :: (9, 0) :: tkL (toN Z) 2 (oneQ Z k)
def lwI (Z : GZ) (k : Nat) : List (Nat × Int64) := (3, 0) :: (orI Z k ++ (whI Z k ++ [(28, 0)]))
def lwR (Z : GZ) : Nat → List (Nat × Int64)
  | 0 => hsR Z (toN Z)
  | k + 1 => lwR Z k ++ lwI Z k
theorem hsR_len (Z : GZ) : ∀ k, (hsR Z k).length = 7 * k
  | 0 => rfl
  | k + 1 => by
    rw [hsR, List.length_append, hsR_len Z k]
    show 7 * k + 7 = _
    omega
theorem lwI_len (Z : GZ) (k : Nat) : (lwI Z k).length ≤ 72 := by
  have h1 : (tkL (toN Z) 2 (oneQ Z k)).length ≤ 11 := tkl_v1 (toN Z) 0 (q := oneQ Z k) rfl (by show 0 < 1; omega)
  have h2 : (tkL (toN Z) 2 (twoQ Z k)).length ≤ 11 := tkl_v1 (toN Z) 0 (q := twoQ Z k) rfl (by show 0 < 1; omega)
  have h3 : (tkL (toN Z) 4 (tesQ Z k)).length ≤ 43 := tkl_t0 (toN Z) 0 (q := tesQ Z k) rfl
  unfold lwI orI whI
  split <;> (try split) <;> (try split) <;> simp only [List.length_append, List.length_cons, List.length_nil] <;> omega
theorem lwR_len (Z : GZ) : ∀ k, (lwR Z k).length ≤ 63 + 72 * k
  | 0 => by
    rw [lwR, hsR_len]
    have := toN_in Z
    omega
  | k + 1 => by
    have h1 := lwR_len Z k
    have h2 := lwI_len Z k
    rw [lwR, List.length_append]
    omega
theorem fl_hs (Z : GZ) : ∀ (k : Nat), k ≤ 9 → ∀ J B, Fl J B → Fl (hsR Z k ++ J) (hsT Z k ++ B)
  | 0, _, _, _, h => h
  | k + 1, hk, J, B, h => by
    have hp := toP_lt Z k
    have hh := toH_le Z k
    rw [hsR, hsT, ct_0, ct_1, ct_2, ct_3]
    simp only [List.append_assoc, List.cons_append, List.nil_append]
    refine fl_hs Z k (by omega) _ _ ?_
    exact Fl.wd (w := [104, 111, 117, 115, 101]) (k := 0) (by decide +kernel) (sep_c (c := 32) (by decide)) (Fl.bl (c := 32) (by decide) (Fl.na (by omega) (sep_c (c := 32) (by decide)) (Fl.bl (c := 32) (by decide) (Fl.wd (w := [97, 116]) (k := 1) (by decide +kernel) (sep_c (c := 32) (by decide)) (Fl.bl (c := 32) (by decide) (Fl.nm (by omega) (sep_c (c := 32) (by decide)) (Fl.bl (c := 32) (by decide) (Fl.wd (w := [104, 105, 103, 104]) (k := 2) (by decide +kernel) (sep_c (c := 32) (by decide)) (Fl.bl (c := 32) (by decide) (Fl.nm (by omega) (sep_c (c := 59) (by decide)) (Fl.sy (c := 59) (k := 28) (by decide) (Fl.bl (c := 10) (by decide) h))))))))))))
theorem fl_wh (Z : GZ) (k : Nat) (J : List (Nat × Int64)) (B : List Nat) (h : Fl J B) : Fl (whI Z k ++ ((28, 0) :: J)) (whT Z k ++ (59 :: B)) ∧ Sep (whT Z k ++ (59 :: B)) := by
  have hN := toN_in Z
  unfold whI whT
  by_cases c : hasT Z k = true
  · rw [if_pos c, if_pos c, ct_11]
    simp only [List.append_assoc, List.cons_append, List.nil_append]
    exact ⟨Fl.bl (c := 32) (by decide) (Fl.wd (w := [119, 104, 101, 110]) (k := 10) (by decide +kernel) (sep_c (c := 32) (by decide)) (Fl.bl (c := 32) (by decide) (fl_tree hN.1 hN.2 4 _ (wf_one Z k).2.2 _ _ (Fl.sy (c := 59) (k := 28) (by decide) h) (sep_c (c := 59) (by decide))).1)), sep_c (c := 32) (by decide)⟩
  · rw [if_neg c, if_neg c, ct_10]
    simp only [List.nil_append]
    exact ⟨Fl.sy (c := 59) (k := 28) (by decide) h, sep_c (c := 59) (by decide)⟩
theorem fl_lw (Z : GZ) : ∀ (k : Nat), ∀ J B, Fl J B → Fl (lwR Z k ++ J) (lwT Z k ++ B)
  | 0, J, B, h => fl_hs Z _ (toN_in Z).2 J B h
  | k + 1, J, B, h => by
    have hN := toN_in Z
    have hv := toV_lt Z k
    obtain ⟨w1, w2⟩ := fl_wh Z k J B h
    rw [lwR, lwT, lcT, lwI, orI, ct_12]
    by_cases c : toK Z k = 0
    · rw [if_pos c, if_pos c, ct_4, ct_7, ct_9]
      simp only [List.append_assoc, List.cons_append, List.nil_append]
      refine fl_lw Z k _ _ ?_
      exact Fl.wd (w := [108, 97, 119]) (k := 3) (by decide +kernel) (sep_c (c := 32) (by decide)) (Fl.bl (c := 32) (by decide) (Fl.wd (w := [99, 117, 114, 102, 101, 119]) (k := 4) (by decide +kernel) (sep_c (c := 32) (by decide)) (Fl.bl (c := 32) (by decide) (Fl.na (by omega) (sep_c (c := 32) (by decide)) (Fl.bl (c := 32) (by decide) (Fl.wd (w := [102, 114, 111, 109]) (k := 5) (by decide +kernel) (sep_c (c := 32) (by decide)) (Fl.bl (c := 32) (by decide) (fl_tree hN.1 hN.2 2 _ (wf_one Z k).1 _ _ (Fl.bl (c := 32) (by decide) (Fl.wd (w := [116, 111]) (k := 6) (by decide +kernel) (sep_c (c := 32) (by decide)) (Fl.bl (c := 32) (by decide) (fl_tree hN.1 hN.2 2 _ (wf_one Z k).2.1 _ _ w1 w2).1))) (sep_c (c := 32) (by decide))).1)))))))
    · rw [if_neg c, if_neg c]
      by_cases c2 : toK Z k = 1
      · rw [if_pos c2, if_pos c2, ct_5]
        simp only [List.append_assoc, List.cons_append, List.nil_append]
        refine fl_lw Z k _ _ ?_
        exact Fl.wd (w := [108, 97, 119]) (k := 3) (by decide +kernel) (sep_c (c := 32) (by decide)) (Fl.bl (c := 32) (by decide) (Fl.wd (w := [111, 112, 101, 110]) (k := 7) (by decide +kernel) (sep_c (c := 32) (by decide)) (Fl.bl (c := 32) (by decide) (Fl.na (by omega) w2 w1))))
      · rw [if_neg c2, if_neg c2, ct_6, ct_8]
        simp only [List.append_assoc, List.cons_append, List.nil_append]
        refine fl_lw Z k _ _ ?_
        exact Fl.wd (w := [108, 97, 119]) (k := 3) (by decide +kernel) (sep_c (c := 32) (by decide)) (Fl.bl (c := 32) (by decide) (Fl.wd (w := [114, 97, 105, 115, 101]) (k := 8) (by decide +kernel) (sep_c (c := 32) (by decide)) (Fl.bl (c := 32) (by decide) (Fl.na (by omega) (sep_c (c := 32) (by decide)) (Fl.bl (c := 32) (by decide) (Fl.wd (w := [98, 121]) (k := 9) (by decide +kernel) (sep_c (c := 32) (by decide)) (Fl.bl (c := 32) (by decide) (fl_tree hN.1 hN.2 2 _ (wf_one Z k).1 _ _ w1 w2).1)))))))
/-- the told text's tokens -/
theorem fl_told (Z : GZ) : Fl (lwR Z (toM Z)) (lwT Z (toM Z)) := by
  have h := fl_lw Z (toM Z) [] [] (fun c hc => absurd hc List.not_mem_nil)
  rw [List.append_nil, List.append_nil] at h
  exact h
theorem at_hs {tk : Nat → Nat} {vf : Nat → Int64} {Z : GZ} : ∀ {n : Nat}, AtT tk vf 0 (hsR Z n) → ∀ k, k < n → AtT tk vf (7 * k) (hsI Z k)
  | 0, _, _, hk => absurd hk (Nat.not_lt_zero _)
  | n + 1, h, k, hk => by
    obtain ⟨h1, h2⟩ := AtT.app (I := hsR Z n) h
    rw [hsR_len, Nat.zero_add] at h2
    rcases Nat.eq_or_lt_of_le (Nat.le_of_lt_succ hk) with e | e
    · rw [e]; exact h2
    · exact at_hs h1 k e
theorem at_lw {tk : Nat → Nat} {vf : Nat → Int64} {Z : GZ} : ∀ {n : Nat}, AtT tk vf 0 (lwR Z n) → AtT tk vf 0 (hsR Z (toN Z)) ∧ ∀ k, k < n → AtT tk vf (lwR Z k).length (lwI Z k)
  | 0, h => ⟨h, fun k hk => absurd hk (Nat.not_lt_zero _)⟩
  | n + 1, h => by
    obtain ⟨h1, h2⟩ := AtT.app (I := lwR Z n) h
    rw [Nat.zero_add] at h2
    refine ⟨(at_lw h1).1, fun k hk => ?_⟩
    rcases Nat.eq_or_lt_of_le (Nat.le_of_lt_succ hk) with e | e
    · rw [e]; exact h2
    · exact (at_lw h1).2 k e
/-- line after line -/
def rdN (tk : Nat → Nat) (sf : Nat → Int32) (vf : Nat → Int64) (st : RS) : Nat → RS
  | 0 => st
  | k + 1 => lineC tk sf vf (rdN tk sf vf st k)
theorem readR_go {tk : Nat → Nat} {sf : Nat → Int32} {vf : Nat → Int64} {st : RS} : ∀ (k f : Nat), (∀ j, j < k → ¬ nowC tk (rdN tk sf vf st j).1 = 41 ∧ brkC (rdN tk sf vf st j).1 = false) → readR tk sf vf (f + k) st = readR tk sf vf f (rdN tk sf vf st k)
  | 0, f, _ => rfl
  | k + 1, f, h => by
    have h1 := readR_go k (f + 1) (fun j hj => h j (by omega))
    obtain ⟨h2, h3⟩ := h k (by omega)
    have e : f + (k + 1) = f + 1 + k := by omega
    rw [e, h1, readR, if_neg h2, if_neg (by rw [h3]; exact Bool.false_ne_true)]
    rfl
theorem readR_is {tk : Nat → Nat} {sf : Nat → Int32} {vf : Nat → Int64} {st : RS} (k : Nat) (hk : k < 400) (h : ∀ j, j < k → ¬ nowC tk (rdN tk sf vf st j).1 = 41 ∧ brkC (rdN tk sf vf st j).1 = false) (h2 : nowC tk (rdN tk sf vf st k).1 = 41) : readR tk sf vf 400 st = rdN tk sf vf st k := by
  have h1 := readR_go k (400 - k) h
  rw [Nat.sub_add_cancel (by omega)] at h1
  rw [h1]
  obtain ⟨f, hf⟩ : ∃ f, 400 - k = f + 1 := ⟨399 - k, by omega⟩
  rw [hf, readR, if_pos h2]
theorem i64_le {a b : Nat} (ha : a < 1000) (hb : b < 1000) : Int64.ofNat a ≤ Int64.ofNat b ↔ a ≤ b := by
  rw [Int64.le_iff_toInt_le, Int64.toInt_ofNat_of_lt (by omega), Int64.toInt_ofNat_of_lt (by omega)]
  omega
theorem hn_no {nm : Nat → Int64} {k : Nat} (h : ∀ i, i < k → nm i = hV i) (hk : k < 9) : hnF nm (hV k) k = -1 := by
  have e : fstN (fun i => nm i == hV k) k = none := fstN_none (fun j hj => by
    rw [h j hj]
    exact beq_false_of_ne (fun q => by have := hV_inj j (by omega) k (by omega) q; omega))
  rw [hnF, e]
theorem nI_64 : ∀ v, v < 128 → (nI v).toInt64 = Int64.ofNat v := by decide +kernel
theorem i64_inj : ∀ v, v < 100 → ∀ w, w < 100 → Int64.ofNat v = Int64.ofNat w → v = w := by decide +kernel
theorem tk_no {Z : GZ} {bP : Nat → Int32} {k : Nat} (h : ∀ i, i < k → bP i = nI (toP Z i)) (hk : k < 9) : ¬ tkF bP (Int64.ofNat (toP Z k)) k = true := by
  have e : fstN (fun i => (bP i).toInt64 == Int64.ofNat (toP Z k)) k = none := fstN_none (fun j hj => by
    rw [h j hj, nI_64 _ (by have := toP_lt Z j; omega)]
    exact beq_false_of_ne (fun q => toP_ne Z (by omega) hj (i64_inj _ (toP_lt Z j) _ (toP_lt Z k) q)))
  rw [tkF, e]
  exact Bool.false_ne_true
/-- a house's line read -/
theorem line_hs {tk : Nat → Nat} {sf : Nat → Int32} {vf : Nat → Int64} {Z : GZ} {q : PS} {K k u : Nat} {nm : Nat → Int64} {bP bH l0 l1 l2 l3 l4 l5 : Nat → Int32} (hb : brkC q = false) (hk : k < 9) (hn : ∀ i, i < k → nm i = hV i) (hp : ∀ i, i < k → bP i = nI (toP Z i)) (hA : AtT tk vf (q.1 + K) (hsI Z k)) : lineC tk sf vf (Sx q [] K, k, nm, bP, bH, u, l0, l1, l2, l3, l4, l5) = (Sx q [] (K + 7), k + 1, updCL nm k 12 (hV k), updC bP k 12 (nI (toP Z k)), updC bH k 12 (nI (toH Z k)), u, l0, l1, l2, l3, l4, l5) := by
  obtain ⟨a1, -, a2, a3, a4, -, a5, a6, a7, -, a8, a9, a10, -, -⟩ := hA
  have hpl := toP_lt Z k
  have hhl := toH_le Z k
  have bS : ∀ K, brkC (Sx q [] K) = false := fun K => by rw [sx_brk]; exact hb
  have v39 : valT tk vf 39 (Sx q [] (K + 1)) = hV k := by rw [val_ok (bS _) (by rw [sx_i]; exact a2), sx_i]; exact a3
  have v40 : valT tk vf 40 (Sx q [] (K + 1 + 1 + 1)) = Int64.ofNat (toP Z k) := by rw [val_ok (bS _) (by rw [sx_i]; exact a5), sx_i]; exact a6
  have w40 : valT tk vf 40 (Sx q [] (K + 1 + 1 + 1 + 1 + 1)) = Int64.ofNat (toH Z k) := by rw [val_ok (bS _) (by rw [sx_i]; exact a8), sx_i]; exact a9
  have e0 : takeC tk sf 0 (Sx q [] K) = Sx q [] (K + 1) := sx_take hb a1
  have eA : houA tk sf vf nm k (Sx q [] (K + 1)) = Sx q [] (K + 1 + 1) := by
    rw [houA, v39, if_pos (hn_no hn hk), if_pos (by omega), sx_take hb a2]
  have e1 : takeC tk sf 1 (Sx q [] (K + 1 + 1)) = Sx q [] (K + 1 + 1 + 1) := sx_take hb a4
  have eB : houB tk sf vf bP k (Sx q [] (K + 1 + 1 + 1)) = Sx q [] (K + 1 + 1 + 1 + 1) := by
    have h9 : ¬ (99 : Int64) < Int64.ofNat (toP Z k) := by
      rw [Int64.not_lt]
      exact (i64_le (a := toP Z k) (b := 99) (by omega) (by omega)).mpr (by omega)
    rw [houB, v40, if_neg h9, if_neg (tk_no hp hk), sx_take hb a5]
  have e2 : takeC tk sf 2 (Sx q [] (K + 1 + 1 + 1 + 1)) = Sx q [] (K + 1 + 1 + 1 + 1 + 1) := sx_take hb a7
  have eD : houD tk sf vf (Sx q [] (K + 1 + 1 + 1 + 1 + 1)) = Sx q [] (K + 1 + 1 + 1 + 1 + 1 + 1) := by
    have h9 : Int64.ofNat (toH Z k) ≤ (30 : Int64) := (i64_le (a := toH Z k) (b := 30) (by omega) (by omega)).mpr hhl
    rw [houD, w40, if_pos h9, sx_take hb a8]
  have eC : houC tk sf vf nm k bP (Sx q [] K) = (Sx q [] (K + 1 + 1 + 1 + 1 + 1 + 1), hV k, Int64.ofNat (toP Z k), Int64.ofNat (toH Z k)) := by
    rw [houC, e0, houH, eA, e1, houF, eB, e2, houG, eD, v39, v40, w40]
  have e9 : takeC tk sf 28 (Sx q [] (K + 1 + 1 + 1 + 1 + 1 + 1)) = Sx q [] (K + 7) := sx_take hb a10
  unfold lineC
  dsimp only
  rw [if_pos (by rw [sx_now hb]; exact a1), eC]
  dsimp only
  rw [e9, i64_32, i64_32, inc, if_pos (by omega)]
