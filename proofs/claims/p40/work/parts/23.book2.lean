/-- the laws of a book -/
def wLs (L : Nat → Nat) (l0 l1 l2 l3 l4 l5 : Nat → Int32) : va_W := (List.range 16).map (fun k => (L k, .inr (1, [.int (l0 k), .int (l1 k), .int (l2 k), .int (l3 k), .int (l4 k), .int (l5 k)])))
/-- a book's cells -/
def wBk (Z : GZ) (b L : Nat → Nat) (hc lc sc : Int32) (nm : Nat → Int64) (bP bH op f1 f2 l0 l1 l2 l3 l4 l5 : Nat → Int32) : va_W := [(b 0, .inr (0, [.ref (b 1), .ref (b 2), .ref (b 3), .int hc, .ref (b 4), .int lc, .ref (b 5), .ref (b 6), .ref (b 7), .int sc])), (b 1, .inl (zA Z 1, 12, .inr (.inl nm))), (b 2, .inl (zA Z 0, 12, .inl bP)), (b 3, .inl (zA Z 0, 12, .inl bH)), (b 4, .inl (zA Z 3, 16, .inr (.inr (.inr (.inr (fun k => some (L k))))))), (b 5, .inl (zA Z 0, 400, .inl op)), (b 6, .inl (zA Z 0, 400, .inl f1)), (b 7, .inl (zA Z 0, 400, .inl f2))] ++ wLs L l0 l1 l2 l3 l4 l5
theorem ls_at {L : Nat → Nat} {l0 l1 l2 l3 l4 l5 : Nat → Int32} {k : Nat} (hk : k < 16) : (wLs L l0 l1 l2 l3 l4 l5)[k]? = some (L k, .inr (1, [.int (l0 k), .int (l1 k), .int (l2 k), .int (l3 k), .int (l4 k), .int (l5 k)])) := by
  rw [wLs, List.getElem?_map, List.getElem?_range hk]; rfl
theorem ls_len {L : Nat → Nat} {l0 l1 l2 l3 l4 l5 : Nat → Int32} : (wLs L l0 l1 l2 l3 l4 l5).length = 16 := by simp [wLs]
theorem ls_set {L : Nat → Nat} {l0 l1 l2 l3 l4 l5 : Nat → Int32} {k : Nat} (hk : k < 16) (x0 x1 x2 x3 x4 x5 : Int32) : (wLs L l0 l1 l2 l3 l4 l5).set k (L k, .inr (1, [.int x0, .int x1, .int x2, .int x3, .int x4, .int x5])) = wLs L (upd l0 k x0) (upd l1 k x1) (upd l2 k x2) (upd l3 k x3) (upd l4 k x4) (upd l5 k x5) := by
  apply List.ext_getElem?
  intro i
  by_cases hi : i < 16
  · by_cases e : k = i
    · subst e
      rw [List.getElem?_set_self (by rw [ls_len]; exact hi), ls_at hi]
      simp [upd]
    · rw [List.getElem?_set_ne e, ls_at hi, ls_at hi]
      have e2 : ¬ i = k := fun h => e h.symm
      simp [upd, e2]
  · rw [List.getElem?_eq_none (by rw [List.length_set, ls_len]; omega), List.getElem?_eq_none (by rw [ls_len]; omega)]
theorem bk_at {Z : GZ} {b L : Nat → Nat} {hc lc sc : Int32} {nm : Nat → Int64} {bP bH op f1 f2 l0 l1 l2 l3 l4 l5 : Nat → Int32} {k : Nat} (hk : k < 16) : (wBk Z b L hc lc sc nm bP bH op f1 f2 l0 l1 l2 l3 l4 l5)[8 + k]? = some (L k, .inr (1, [.int (l0 k), .int (l1 k), .int (l2 k), .int (l3 k), .int (l4 k), .int (l5 k)])) := by
  rw [wBk, List.getElem?_append_right (by simp)]
  simp only [List.length_cons, List.length_nil]
  rw [show 8 + k - (0 + 1 + 1 + 1 + 1 + 1 + 1 + 1 + 1) = k by omega]
  exact ls_at hk
theorem bk_len {Z : GZ} {b L : Nat → Nat} {hc lc sc : Int32} {nm : Nat → Int64} {bP bH op f1 f2 l0 l1 l2 l3 l4 l5 : Nat → Int32} : (wBk Z b L hc lc sc nm bP bH op f1 f2 l0 l1 l2 l3 l4 l5).length = 24 := by rw [wBk, List.length_append, ls_len]; rfl
theorem bk_set {Z : GZ} {b L : Nat → Nat} {hc lc sc : Int32} {nm : Nat → Int64} {bP bH op f1 f2 l0 l1 l2 l3 l4 l5 : Nat → Int32} {k : Nat} (hk : k < 16) (x0 x1 x2 x3 x4 x5 : Int32) : (wBk Z b L hc lc sc nm bP bH op f1 f2 l0 l1 l2 l3 l4 l5).set (8 + k) (L k, .inr (1, [.int x0, .int x1, .int x2, .int x3, .int x4, .int x5])) = wBk Z b L hc lc sc nm bP bH op f1 f2 (upd l0 k x0) (upd l1 k x1) (upd l2 k x2) (upd l3 k x3) (upd l4 k x4) (upd l5 k x5) := by
  rw [wBk, List.set_append_right _ _ (by simp)]
  simp only [List.length_cons, List.length_nil]
  rw [show 8 + k - (0 + 1 + 1 + 1 + 1 + 1 + 1 + 1 + 1) = k by omega, ls_set hk]
  rfl
theorem ap_at {A B : va_W} {k : Nat} {q : Nat × va_E} (h : A[k]? = some q) : (A ++ B)[k]? = some q := by
  rw [List.getElem?_append_left (List.getElem?_eq_some_iff.mp h).1]; exact h
theorem ap_at2 {A B : va_W} {k n : Nat} {q : Nat × va_E} (h : B[k]? = some q) (hn : A.length = n) : (A ++ B)[n + k]? = some q := by
  subst hn
  rw [List.getElem?_append_right (Nat.le_add_right _ _), Nat.add_sub_cancel_left]; exact h
theorem ap_set {A A2 B : va_W} {k : Nat} {q : Nat × va_E} (hk : k < A.length) (h : A.set k q = A2) : (A ++ B).set k q = A2 ++ B := by
  rw [List.set_append_left _ _ hk, h]
def inc (m cap : Nat) : Nat := if m < cap then m + 1 else m
def updC (f : Nat → Int32) (m cap : Nat) (x : Int32) : Nat → Int32 := if m < cap then upd f m x else f
def updCL (f : Nat → Int64) (m cap : Nat) (x : Int64) : Nat → Int64 := if m < cap then vp_updL f m x else f
theorem inc_lt {m cap : Nat} (h : m < cap) : inc m cap = m + 1 := if_pos h
theorem updC_lt {f : Nat → Int32} {m cap : Nat} {x : Int32} (h : m < cap) : updC f m cap x = upd f m x := if_pos h
theorem updCL_lt {f : Nat → Int64} {m cap : Nat} {x : Int64} (h : m < cap) : updCL f m cap x = vp_updL f m x := if_pos h
def hnF (nm : Nat → Int64) (x : Int64) (m : Nat) : Int32 := match fstN (fun i => nm i == x) m with
  | some i => nI i
  | none => -1
def tkF (bP : Nat → Int32) (x : Int64) (m : Nat) : Bool := (fstN (fun i => (bP i).toInt64 == x) m).isSome
theorem hnF_some {nm : Nat → Int64} {x : Int64} {m k : Nat} (hk : k < m) (h : nm k = x) (hj : ∀ j, j < k → ¬ nm j = x) : hnF nm x m = nI k := by
  have e : fstN (fun i => nm i == x) m = some k := fstN_some hk (beq_iff_eq.mpr h) (fun j q => beq_false_of_ne (hj j q))
  rw [hnF, e]
theorem hnF_none {nm : Nat → Int64} {x : Int64} {m : Nat} (hj : ∀ j, j < m → ¬ nm j = x) : hnF nm x m = -1 := by
  have e : fstN (fun i => nm i == x) m = none := fstN_none (fun j q => beq_false_of_ne (hj j q))
  rw [hnF, e]
theorem tkF_some {bP : Nat → Int32} {x : Int64} {m k : Nat} (hk : k < m) (h : (bP k).toInt64 = x) (hj : ∀ j, j < k → ¬ (bP j).toInt64 = x) : tkF bP x m = true := by
  have e : fstN (fun i => (bP i).toInt64 == x) m = some k := fstN_some hk (beq_iff_eq.mpr h) (fun j q => beq_false_of_ne (hj j q))
  rw [tkF, e]; rfl
theorem tkF_none {bP : Nat → Int32} {x : Int64} {m : Nat} (hj : ∀ j, j < m → ¬ (bP j).toInt64 = x) : tkF bP x m = false := by
  have e : fstN (fun i => (bP i).toInt64 == x) m = none := fstN_none (fun j q => beq_false_of_ne (hj j q))
  rw [tkF, e]; rfl
theorem fillNL_s (f g : Nat → Int64) (k : Nat) : vp_updL (fillN f g k) k (f k) = fillN f g (k + 1) := by
  funext i
  by_cases h : i = k
  · subst h; simp [fillN, vp_updL]
  · have h2 : i < k + 1 ↔ i < k := by omega
    simp [fillN, vp_updL, h, h2]
set_option maxRecDepth 100000 in
set_option maxHeartbeats 4000000 in
theorem c_X2_become {Z : GZ} {l : Launch} {w : va_W} {q1 q2 a1 a2 : Nat} {x0 x1 x2 x3 x4 x5 y0 y1 y2 y3 y4 y5 : Int32} (h1 : w[q1]? = some (a1, .inr (1, [.int x0, .int x1, .int x2, .int x3, .int x4, .int x5]))) (h2 : w[q2]? = some (a2, .inr (1, [.int y0, .int y1, .int y2, .int y3, .int y4, .int y5]))) (hne : q1 ≠ q2) : Ct Z l yX2_become cX2_become 2 none (rmK 0) [.ref a1, .ref a2] w (fun v w1 => v = none ∧ w1 = w.set q1 (a1, .inr (1, [.int y0, .int y1, .int y2, .int y3, .int y4, .int y5]))) := by
  have hlt : q1 < w.length := (List.getElem?_eq_some_iff.mp h1).1
  refine Ct.ofJ (own := RX2) (nm := "become") (lv0 := [(0, .ref a1), (1, .ref a2)]) (by decide) rfl rfl (Nat.le_of_ble_eq_true rfl) rfl (fun X hXl C E => ?_)
  subst hXl
  refine J_aload_n C iX2_become_0 rfl rfl ?_
  refine J_aload_n C iX2_become_1 rfl rfl ?_
  refine J_get (.int y0) q2 C iX2_become_2 gf_X2_7 h2 rfl ?_
  refine J_put (w.set q1 (a1, .inr (1, [.int y0, .int x1, .int x2, .int x3, .int x4, .int x5]))) q1 C iX2_become_5 pf_X2_7 rfl rfl h1 (Nat.le_of_ble_eq_true rfl) rfl ?_
  refine J_aload_n C iX2_become_8 rfl rfl ?_
  refine J_aload_n C iX2_become_9 rfl rfl ?_
  refine J_get (.int y1) q2 C iX2_become_10 gf_X2_13 (by rw [List.getElem?_set_ne hne]; exact h2) rfl ?_
  refine J_put (w.set q1 (a1, .inr (1, [.int y0, .int y1, .int x2, .int x3, .int x4, .int x5]))) q1 C iX2_become_13 pf_X2_13 rfl rfl (List.getElem?_set_self hlt) (Nat.le_of_ble_eq_true rfl) (List.set_set _) ?_
  refine J_aload_n C iX2_become_16 rfl rfl ?_
  refine J_aload_n C iX2_become_17 rfl rfl ?_
  refine J_get (.int y2) q2 C iX2_become_18 gf_X2_16 (by rw [List.getElem?_set_ne hne]; exact h2) rfl ?_
  refine J_put (w.set q1 (a1, .inr (1, [.int y0, .int y1, .int y2, .int x3, .int x4, .int x5]))) q1 C iX2_become_21 pf_X2_16 rfl rfl (List.getElem?_set_self hlt) (Nat.le_of_ble_eq_true rfl) (List.set_set _) ?_
  refine J_aload_n C iX2_become_24 rfl rfl ?_
  refine J_aload_n C iX2_become_25 rfl rfl ?_
  refine J_get (.int y3) q2 C iX2_become_26 gf_X2_19 (by rw [List.getElem?_set_ne hne]; exact h2) rfl ?_
  refine J_put (w.set q1 (a1, .inr (1, [.int y0, .int y1, .int y2, .int y3, .int x4, .int x5]))) q1 C iX2_become_29 pf_X2_19 rfl rfl (List.getElem?_set_self hlt) (Nat.le_of_ble_eq_true rfl) (List.set_set _) ?_
  refine J_aload_n C iX2_become_32 rfl rfl ?_
  refine J_aload_n C iX2_become_33 rfl rfl ?_
  refine J_get (.int y4) q2 C iX2_become_34 gf_X2_22 (by rw [List.getElem?_set_ne hne]; exact h2) rfl ?_
  refine J_put (w.set q1 (a1, .inr (1, [.int y0, .int y1, .int y2, .int y3, .int y4, .int x5]))) q1 C iX2_become_37 pf_X2_22 rfl rfl (List.getElem?_set_self hlt) (Nat.le_of_ble_eq_true rfl) (List.set_set _) ?_
  refine J_aload_n C iX2_become_40 rfl rfl ?_
  refine J_aload_n C iX2_become_41 rfl rfl ?_
  refine J_get (.int y5) q2 C iX2_become_42 gf_X2_25 (by rw [List.getElem?_set_ne hne]; exact h2) rfl ?_
  refine J_put (w.set q1 (a1, .inr (1, [.int y0, .int y1, .int y2, .int y3, .int y4, .int y5]))) q1 C iX2_become_45 pf_X2_25 rfl rfl (List.getElem?_set_self hlt) (Nat.le_of_ble_eq_true rfl) (List.set_set _) ?_
  exact J_vret C E iX2_become_48 ⟨rfl, rfl⟩
set_option maxRecDepth 100000 in
set_option maxHeartbeats 4000000 in
theorem c_X0_empty {Z : GZ} {l : Launch} {b L : Nat → Nat} {hc lc sc : Int32} {nm : Nat → Int64} {bP bH op f1 f2 l0 l1 l2 l3 l4 l5 : Nat → Int32}  : Ct Z l yX0_empty cX0_empty 1 none (rmK 0) [.ref (b 0)] (wBk Z b L hc lc sc nm bP bH op f1 f2 l0 l1 l2 l3 l4 l5) (fun v w => v = none ∧ w = (wBk Z b L 0 0 0 nm bP bH op f1 f2 l0 l1 l2 l3 l4 l5)) := by
  refine Ct.ofJ (own := RX0) (nm := "empty") (lv0 := [(0, .ref (b 0))]) (by decide) rfl rfl (Nat.le_of_ble_eq_true rfl) rfl (fun X hXl C E => ?_)
  subst hXl
  refine J_aload_n C iX0_empty_0 rfl rfl ?_
  refine J_iconst 0 C iX0_empty_1 rfl ?_
  refine J_put (wBk Z b L 0 lc sc nm bP bH op f1 f2 l0 l1 l2 l3 l4 l5) 0 C iX0_empty_2 pf_X0_38 rfl rfl rfl (Nat.le_of_ble_eq_true rfl) rfl ?_
  refine J_aload_n C iX0_empty_5 rfl rfl ?_
  refine J_iconst 0 C iX0_empty_6 rfl ?_
  refine J_put (wBk Z b L 0 0 sc nm bP bH op f1 f2 l0 l1 l2 l3 l4 l5) 0 C iX0_empty_7 pf_X0_42 rfl rfl rfl (Nat.le_of_ble_eq_true rfl) rfl ?_
  refine J_aload_n C iX0_empty_10 rfl rfl ?_
  refine J_iconst 0 C iX0_empty_11 rfl ?_
  refine J_put (wBk Z b L 0 0 0 nm bP bH op f1 f2 l0 l1 l2 l3 l4 l5) 0 C iX0_empty_12 pf_X0_45 rfl rfl rfl (Nat.le_of_ble_eq_true rfl) rfl ?_
  exact J_vret C E iX0_empty_15 ⟨rfl, rfl⟩

set_option maxRecDepth 100000 in
set_option maxHeartbeats 4000000 in
theorem c_X0_addHouse {Z : GZ} {l : Launch} {b L : Nat → Nat} {m : Nat} {lc sc : Int32} {nm : Nat → Int64} {bP bH op f1 f2 l0 l1 l2 l3 l4 l5 : Nat → Int32} {x : Int64} {y z : Int32} (hm : m ≤ 12)  : Ct Z l yX0_addHouse cX0_addHouse 5 none (rmK 0) [.ref (b 0), .long x, .int y, .int z] (wBk Z b L (nI m) lc sc nm bP bH op f1 f2 l0 l1 l2 l3 l4 l5) (fun v w => v = none ∧ w = (wBk Z b L (nI (inc m 12)) lc sc (updCL nm m 12 x) (updC bP m 12 y) (updC bH m 12 z) op f1 f2 l0 l1 l2 l3 l4 l5)) := by
  refine Ct.ofJ (own := RX0) (nm := "addHouse") (lv0 := [(0, .ref (b 0)), (1, .long x), (3, .int y), (4, .int z)]) (by decide) rfl rfl (Nat.le_of_ble_eq_true rfl) rfl (fun X hXl C E => ?_)
  subst hXl
  refine J_aload_n C iX0_addHouse_0 rfl rfl ?_
  refine J_get (.int (nI m)) 0 C iX0_addHouse_1 gf_X0_38 rfl rfl ?_
  refine J_iflt 57 C iX0_addHouse_4 rfl (fun h4 => absurd h4 (nI_pos (n := m) (by omega))) (fun h4 => ?_)
  by_cases hm2 : m < 12
  · refine J_aload_n C iX0_addHouse_7 rfl rfl ?_
    refine J_get (.int (nI m)) 0 C iX0_addHouse_8 gf_X0_38 rfl rfl ?_
    refine J_bipush 12 C iX0_addHouse_11 rfl ?_
    refine J_icmpge 57 C iX0_addHouse_13 rfl (fun h13 => absurd h13 (nI_ge (a := m) (b := 12) (by omega) (by omega))) (fun h13 => ?_)
    refine J_aload_n C iX0_addHouse_16 rfl rfl ?_
    refine J_get (.ref (b 1)) 0 C iX0_addHouse_17 gf_X0_9 rfl rfl ?_
    refine J_aload_n C iX0_addHouse_20 rfl rfl ?_
    refine J_get (.int (nI m)) 0 C iX0_addHouse_21 gf_X0_38 rfl rfl ?_
    refine J_lload_n C iX0_addHouse_24 rfl rfl ?_
    refine J_last (wBk Z b L (nI m) lc sc (vp_updL nm (nI m).toNatClampNeg x) bP bH op f1 f2 l0 l1 l2 l3 l4 l5) 1 C iX0_addHouse_25 rfl (vp_in_nI (n := m) (by omega) (by decide)) rfl ?_
    rw [nI_clamp (n := m) (by omega)]
    refine J_aload_n C iX0_addHouse_26 rfl rfl ?_
    refine J_get (.ref (b 2)) 0 C iX0_addHouse_27 gf_X0_15 rfl rfl ?_
    refine J_aload_n C iX0_addHouse_30 rfl rfl ?_
    refine J_get (.int (nI m)) 0 C iX0_addHouse_31 gf_X0_38 rfl rfl ?_
    refine J_iload_n C iX0_addHouse_34 rfl rfl ?_
    refine J_iast (wBk Z b L (nI m) lc sc (vp_updL nm m x) (upd bP (nI m).toNatClampNeg y) bH op f1 f2 l0 l1 l2 l3 l4 l5) 2 C iX0_addHouse_35 rfl (vp_in_nI (n := m) (by omega) (by decide)) rfl ?_
    rw [nI_clamp (n := m) (by omega)]
    refine J_aload_n C iX0_addHouse_36 rfl rfl ?_
    refine J_get (.ref (b 3)) 0 C iX0_addHouse_37 gf_X0_19 rfl rfl ?_
    refine J_aload_n C iX0_addHouse_40 rfl rfl ?_
    refine J_get (.int (nI m)) 0 C iX0_addHouse_41 gf_X0_38 rfl rfl ?_
    refine J_iload C iX0_addHouse_44 rfl ?_
    refine J_iast (wBk Z b L (nI m) lc sc (vp_updL nm m x) (upd bP m y) (upd bH (nI m).toNatClampNeg z) op f1 f2 l0 l1 l2 l3 l4 l5) 3 C iX0_addHouse_46 rfl (vp_in_nI (n := m) (by omega) (by decide)) rfl ?_
    rw [nI_clamp (n := m) (by omega)]
    refine J_aload_n C iX0_addHouse_47 rfl rfl ?_
    refine J_dup C iX0_addHouse_48 rfl ?_
    refine J_get (.int (nI m)) 0 C iX0_addHouse_49 gf_X0_38 rfl rfl ?_
    refine J_iconst 1 C iX0_addHouse_52 rfl ?_
    refine J_iadd C iX0_addHouse_53 ?_
    rw [show (nI m) + 1 = nI (m + 1) from nI_add _ _]
    refine J_put (wBk Z b L (nI (m + 1)) lc sc (vp_updL nm m x) (upd bP m y) (upd bH m z) op f1 f2 l0 l1 l2 l3 l4 l5) 0 C iX0_addHouse_54 pf_X0_38 rfl rfl rfl (Nat.le_of_ble_eq_true rfl) rfl ?_
    exact J_vret C E iX0_addHouse_57 ⟨rfl, by simp only [inc, updC, updCL, if_pos hm2]⟩
  · refine J_aload_n C iX0_addHouse_7 rfl rfl ?_
    refine J_get (.int (nI m)) 0 C iX0_addHouse_8 gf_X0_38 rfl rfl ?_
    refine J_bipush 12 C iX0_addHouse_11 rfl ?_
    refine J_icmpge 57 C iX0_addHouse_13 rfl (fun h13 => ?_) (fun h13 => absurd (nI_le (a := 12) (b := m) (by omega) (by omega)) h13)
    exact J_vret C E iX0_addHouse_57 ⟨rfl, by simp only [inc, updC, updCL, if_neg hm2]⟩

set_option maxRecDepth 100000 in
set_option maxHeartbeats 4000000 in
theorem c_X0_addStep {Z : GZ} {l : Launch} {b L : Nat → Nat} {m : Nat} {hc lc : Int32} {nm : Nat → Int64} {bP bH op f1 f2 l0 l1 l2 l3 l4 l5 : Nat → Int32} {x y z : Int32} (hm : m ≤ 400)  : Ct Z l yX0_addStep cX0_addStep 4 none (rmK 0) [.ref (b 0), .int x, .int y, .int z] (wBk Z b L hc lc (nI m) nm bP bH op f1 f2 l0 l1 l2 l3 l4 l5) (fun v w => v = none ∧ w = (wBk Z b L hc lc (nI (inc m 400)) nm bP bH (updC op m 400 x) (updC f1 m 400 y) (updC f2 m 400 z) l0 l1 l2 l3 l4 l5)) := by
  refine Ct.ofJ (own := RX0) (nm := "addStep") (lv0 := [(0, .ref (b 0)), (1, .int x), (2, .int y), (3, .int z)]) (by decide) rfl rfl (Nat.le_of_ble_eq_true rfl) rfl (fun X hXl C E => ?_)
  subst hXl
  refine J_aload_n C iX0_addStep_0 rfl rfl ?_
  refine J_get (.int (nI m)) 0 C iX0_addStep_1 gf_X0_45 rfl rfl ?_
  refine J_iflt 57 C iX0_addStep_4 rfl (fun h4 => absurd h4 (nI_pos (n := m) (by omega))) (fun h4 => ?_)
  by_cases hm2 : m < 400
  · refine J_aload_n C iX0_addStep_7 rfl rfl ?_
    refine J_get (.int (nI m)) 0 C iX0_addStep_8 gf_X0_45 rfl rfl ?_
    refine J_sipush 400 C iX0_addStep_11 rfl ?_
    refine J_icmpge 57 C iX0_addStep_14 rfl (fun h14 => absurd h14 (nI_ge (a := m) (b := 400) (by omega) (by omega))) (fun h14 => ?_)
    refine J_aload_n C iX0_addStep_17 rfl rfl ?_
    refine J_get (.ref (b 5)) 0 C iX0_addStep_18 gf_X0_28 rfl rfl ?_
    refine J_aload_n C iX0_addStep_21 rfl rfl ?_
    refine J_get (.int (nI m)) 0 C iX0_addStep_22 gf_X0_45 rfl rfl ?_
    refine J_iload_n C iX0_addStep_25 rfl rfl ?_
    refine J_iast (wBk Z b L hc lc (nI m) nm bP bH (upd op (nI m).toNatClampNeg x) f1 f2 l0 l1 l2 l3 l4 l5) 5 C iX0_addStep_26 rfl (vp_in_nI (n := m) (by omega) (by decide)) rfl ?_
    rw [nI_clamp (n := m) (by omega)]
    refine J_aload_n C iX0_addStep_27 rfl rfl ?_
    refine J_get (.ref (b 6)) 0 C iX0_addStep_28 gf_X0_31 rfl rfl ?_
    refine J_aload_n C iX0_addStep_31 rfl rfl ?_
    refine J_get (.int (nI m)) 0 C iX0_addStep_32 gf_X0_45 rfl rfl ?_
    refine J_iload_n C iX0_addStep_35 rfl rfl ?_
    refine J_iast (wBk Z b L hc lc (nI m) nm bP bH (upd op m x) (upd f1 (nI m).toNatClampNeg y) f2 l0 l1 l2 l3 l4 l5) 6 C iX0_addStep_36 rfl (vp_in_nI (n := m) (by omega) (by decide)) rfl ?_
    rw [nI_clamp (n := m) (by omega)]
    refine J_aload_n C iX0_addStep_37 rfl rfl ?_
    refine J_get (.ref (b 7)) 0 C iX0_addStep_38 gf_X0_34 rfl rfl ?_
    refine J_aload_n C iX0_addStep_41 rfl rfl ?_
    refine J_get (.int (nI m)) 0 C iX0_addStep_42 gf_X0_45 rfl rfl ?_
    refine J_iload_n C iX0_addStep_45 rfl rfl ?_
    refine J_iast (wBk Z b L hc lc (nI m) nm bP bH (upd op m x) (upd f1 m y) (upd f2 (nI m).toNatClampNeg z) l0 l1 l2 l3 l4 l5) 7 C iX0_addStep_46 rfl (vp_in_nI (n := m) (by omega) (by decide)) rfl ?_
    rw [nI_clamp (n := m) (by omega)]
    refine J_aload_n C iX0_addStep_47 rfl rfl ?_
    refine J_dup C iX0_addStep_48 rfl ?_
    refine J_get (.int (nI m)) 0 C iX0_addStep_49 gf_X0_45 rfl rfl ?_
    refine J_iconst 1 C iX0_addStep_52 rfl ?_
    refine J_iadd C iX0_addStep_53 ?_
    rw [show (nI m) + 1 = nI (m + 1) from nI_add _ _]
    refine J_put (wBk Z b L hc lc (nI (m + 1)) nm bP bH (upd op m x) (upd f1 m y) (upd f2 m z) l0 l1 l2 l3 l4 l5) 0 C iX0_addStep_54 pf_X0_45 rfl rfl rfl (Nat.le_of_ble_eq_true rfl) rfl ?_
    exact J_vret C E iX0_addStep_57 ⟨rfl, by simp only [inc, updC, if_pos hm2]⟩
  · refine J_aload_n C iX0_addStep_7 rfl rfl ?_
    refine J_get (.int (nI m)) 0 C iX0_addStep_8 gf_X0_45 rfl rfl ?_
    refine J_sipush 400 C iX0_addStep_11 rfl ?_
    refine J_icmpge 57 C iX0_addStep_14 rfl (fun h14 => ?_) (fun h14 => absurd (nI_le (a := 400) (b := m) (by omega) (by omega)) h14)
    exact J_vret C E iX0_addStep_57 ⟨rfl, by simp only [inc, updC, if_neg hm2]⟩

set_option maxRecDepth 100000 in
set_option maxHeartbeats 4000000 in
theorem c_X0_lawAt {Z : GZ} {l : Launch} {b L : Nat → Nat} {m i : Nat} {hc sc : Int32} {nm : Nat → Int64} {bP bH op f1 f2 l0 l1 l2 l3 l4 l5 : Nat → Int32} (hm : m ≤ 16) (hi : i < m)  : Ct Z l yX0_lawAt cX0_lawAt 2 (some (.object "ShadowRegistry$Law")) (rmK 0) [.ref (b 0), .int (nI i)] (wBk Z b L hc (nI m) sc nm bP bH op f1 f2 l0 l1 l2 l3 l4 l5) (fun v w => v = some (.ref (L i)) ∧ w = (wBk Z b L hc (nI m) sc nm bP bH op f1 f2 l0 l1 l2 l3 l4 l5)) := by
  refine Ct.ofJ (own := RX0) (nm := "lawAt") (lv0 := [(0, .ref (b 0)), (1, .int (nI i))]) (by decide) rfl rfl (Nat.le_of_ble_eq_true rfl) rfl (fun X hXl C E => ?_)
  subst hXl
  refine J_iload_n C iX0_lawAt_0 rfl rfl ?_
  refine J_iflt 21 C iX0_lawAt_1 rfl (fun h1 => absurd h1 (nI_pos (n := i) (by omega))) (fun h1 => ?_)
  refine J_iload_n C iX0_lawAt_4 rfl rfl ?_
  refine J_aload_n C iX0_lawAt_5 rfl rfl ?_
  refine J_get (.int (nI m)) 0 C iX0_lawAt_6 gf_X0_42 rfl rfl ?_
  refine J_icmpge 21 C iX0_lawAt_9 rfl (fun h9 => absurd h9 (nI_ge (a := i) (b := m) (by omega) (by omega))) (fun h9 => ?_)
  refine J_iload_n C iX0_lawAt_12 rfl rfl ?_
  refine J_aload_n C iX0_lawAt_13 rfl rfl ?_
  refine J_get (.ref (b 4)) 0 C iX0_lawAt_14 gf_X0_24 rfl rfl ?_
  refine J_alen (t0 := 3) 16 4 C iX0_lawAt_17 rfl rfl rfl ?_
  refine J_icmplt 25 C iX0_lawAt_18 rfl (fun h18 => ?_) (fun h18 => absurd (nI_lt (a := i) (b := 16) (by omega) (by omega)) h18)
  refine J_aload_n C iX0_lawAt_25 rfl rfl ?_
  refine J_get (.ref (b 4)) 0 C iX0_lawAt_26 gf_X0_24 rfl rfl ?_
  refine J_iload_n C iX0_lawAt_29 rfl rfl ?_
  refine J_aaldL 4 C iX0_lawAt_30 rfl (vp_in_nI (n := i) (by omega) (by decide)) ?_
  rw [nI_clamp (n := i) (by omega)]
  refine J_st (.ref (L i) :: []) rfl ?_
  exact J_aret C E iX0_lawAt_31 (Or.inl ⟨_, rfl⟩) ⟨rfl, rfl⟩

set_option maxRecDepth 100000 in
set_option maxHeartbeats 4000000 in
theorem c_X0_houseNamed {Z : GZ} {l : Launch} {b L : Nat → Nat} {m : Nat} {lc sc : Int32} {nm : Nat → Int64} {bP bH op f1 f2 l0 l1 l2 l3 l4 l5 : Nat → Int32} {x : Int64} (hm : m ≤ 12)  : Ct Z l yX0_houseNamed cX0_houseNamed 4 (some .int) (rmK 0) [.ref (b 0), .long x] (wBk Z b L (nI m) lc sc nm bP bH op f1 f2 l0 l1 l2 l3 l4 l5) (fun v w => v = some (.int (hnF nm x m)) ∧ w = (wBk Z b L (nI m) lc sc nm bP bH op f1 f2 l0 l1 l2 l3 l4 l5)) := by
  refine Ct.ofJ (own := RX0) (nm := "houseNamed") (lv0 := [(0, .ref (b 0)), (1, .long x)]) (by decide) rfl rfl (Nat.le_of_ble_eq_true rfl) rfl (fun X hXl C E => ?_)
  subst hXl
  refine J_iconst 0 C iX0_houseNamed_0 rfl ?_
  refine J_istore_n [(3, .int 0), (0, .ref (b 0)), (1, .long x)] C iX0_houseNamed_1 rfl (by decide) rfl ?_
  refine J_lvm [(3, .int (nI 0)), (1, .long x), (0, .ref (b 0))] rfl ?_
  refine J_forP (fun k => [(3, .int (nI k)), (1, .long x), (0, .ref (b 0))]) (fun k => (wBk Z b L (nI m) lc sc nm bP bH op f1 f2 l0 l1 l2 l3 l4 l5)) (fun k => ∀ i, i < k → ¬ nm i = x) m 0 (by omega) (fun _ h => absurd h (Nat.not_lt_zero _)) (fun hI => ?_) (fun k hk0 hk hI ih => ?_)
  · refine J_iload_n C iX0_houseNamed_2 rfl rfl ?_
    refine J_aload_n C iX0_houseNamed_3 rfl rfl ?_
    refine J_get (.int (nI m)) 0 C iX0_houseNamed_4 gf_X0_38 rfl rfl ?_
    refine J_icmpge 35 C iX0_houseNamed_7 rfl (fun h7 => ?_) (fun h7 => absurd (nI_le (a := m) (b := m) (by omega) (by omega)) h7)
    refine J_iconst (-1) C iX0_houseNamed_35 rfl ?_
    exact J_iret C E iX0_houseNamed_36 ⟨by rw [hnF_none hI], rfl⟩
  · refine J_iload_n C iX0_houseNamed_2 rfl rfl ?_
    refine J_aload_n C iX0_houseNamed_3 rfl rfl ?_
    refine J_get (.int (nI m)) 0 C iX0_houseNamed_4 gf_X0_38 rfl rfl ?_
    refine J_icmpge 35 C iX0_houseNamed_7 rfl (fun h7 => absurd h7 (nI_ge (a := k) (b := m) (by omega) (by omega))) (fun h7 => ?_)
    refine J_iload_n C iX0_houseNamed_10 rfl rfl ?_
    refine J_bipush 12 C iX0_houseNamed_11 rfl ?_
    refine J_icmpge 35 C iX0_houseNamed_13 rfl (fun h13 => absurd h13 (nI_ge (a := k) (b := 12) (by omega) (by omega))) (fun h13 => ?_)
    refine J_aload_n C iX0_houseNamed_16 rfl rfl ?_
    refine J_get (.ref (b 1)) 0 C iX0_houseNamed_17 gf_X0_9 rfl rfl ?_
    refine J_iload_n C iX0_houseNamed_20 rfl rfl ?_
    refine J_lald 1 C iX0_houseNamed_21 rfl (vp_in_nI (n := k) (by omega) (by decide)) ?_
    rw [nI_clamp (n := k) (by omega)]
    refine J_lload_n C iX0_houseNamed_22 rfl rfl ?_
    refine J_lcmp C iX0_houseNamed_23 ?_
    refine J_ifneL 29 C iX0_houseNamed_24 rfl (fun h24 => ?_) (fun h24 => ?_)
    · refine J_iinc ((nI k) + 1) [(3, .int ((nI k) + 1)), (1, .long x), (0, .ref (b 0))] C iX0_houseNamed_29 rfl rfl (by decide) rfl ?_
      rw [show (nI k) + 1 = nI (k + 1) from nI_add _ _]
      refine J_goto 2 C iX0_houseNamed_32 rfl ?_
      refine J_lvm [(3, .int (nI (k + 1))), (1, .long x), (0, .ref (b 0))] rfl ?_
      exact ih (lt_s hI h24)
    · refine J_iload_n C iX0_houseNamed_27 rfl rfl ?_
      exact J_iret C E iX0_houseNamed_28 ⟨by rw [hnF_some hk h24 hI], rfl⟩

set_option maxRecDepth 100000 in
set_option maxHeartbeats 4000000 in
theorem c_X0_isTaken {Z : GZ} {l : Launch} {b L : Nat → Nat} {m : Nat} {lc sc : Int32} {nm : Nat → Int64} {bP bH op f1 f2 l0 l1 l2 l3 l4 l5 : Nat → Int32} {x : Int64} (hm : m ≤ 12)  : Ct Z l yX0_isTaken cX0_isTaken 4 (some .boolean) (rmK 0) [.ref (b 0), .long x] (wBk Z b L (nI m) lc sc nm bP bH op f1 f2 l0 l1 l2 l3 l4 l5) (fun v w => v = some (.int (b2i (tkF bP x m))) ∧ w = (wBk Z b L (nI m) lc sc nm bP bH op f1 f2 l0 l1 l2 l3 l4 l5)) := by
  refine Ct.ofJ (own := RX0) (nm := "isTaken") (lv0 := [(0, .ref (b 0)), (1, .long x)]) (by decide) rfl rfl (Nat.le_of_ble_eq_true rfl) rfl (fun X hXl C E => ?_)
  subst hXl
  refine J_iconst 0 C iX0_isTaken_0 rfl ?_
  refine J_istore_n [(3, .int 0), (0, .ref (b 0)), (1, .long x)] C iX0_isTaken_1 rfl (by decide) rfl ?_
  refine J_lvm [(3, .int (nI 0)), (1, .long x), (0, .ref (b 0))] rfl ?_
  refine J_forP (fun k => [(3, .int (nI k)), (1, .long x), (0, .ref (b 0))]) (fun k => (wBk Z b L (nI m) lc sc nm bP bH op f1 f2 l0 l1 l2 l3 l4 l5)) (fun k => ∀ i, i < k → ¬ (bP i).toInt64 = x) m 0 (by omega) (fun _ h => absurd h (Nat.not_lt_zero _)) (fun hI => ?_) (fun k hk0 hk hI ih => ?_)
  · refine J_iload_n C iX0_isTaken_2 rfl rfl ?_
    refine J_aload_n C iX0_isTaken_3 rfl rfl ?_
    refine J_get (.int (nI m)) 0 C iX0_isTaken_4 gf_X0_38 rfl rfl ?_
    refine J_icmpge 36 C iX0_isTaken_7 rfl (fun h7 => ?_) (fun h7 => absurd (nI_le (a := m) (b := m) (by omega) (by omega)) h7)
    refine J_iconst 0 C iX0_isTaken_36 rfl ?_
    exact J_zret C E iX0_isTaken_37 rfl ⟨by rw [tkF_none hI]; rfl, rfl⟩
  · refine J_iload_n C iX0_isTaken_2 rfl rfl ?_
    refine J_aload_n C iX0_isTaken_3 rfl rfl ?_
    refine J_get (.int (nI m)) 0 C iX0_isTaken_4 gf_X0_38 rfl rfl ?_
    refine J_icmpge 36 C iX0_isTaken_7 rfl (fun h7 => absurd h7 (nI_ge (a := k) (b := m) (by omega) (by omega))) (fun h7 => ?_)
    refine J_iload_n C iX0_isTaken_10 rfl rfl ?_
    refine J_bipush 12 C iX0_isTaken_11 rfl ?_
    refine J_icmpge 36 C iX0_isTaken_13 rfl (fun h13 => absurd h13 (nI_ge (a := k) (b := 12) (by omega) (by omega))) (fun h13 => ?_)
    refine J_aload_n C iX0_isTaken_16 rfl rfl ?_
    refine J_get (.ref (b 2)) 0 C iX0_isTaken_17 gf_X0_15 rfl rfl ?_
    refine J_iload_n C iX0_isTaken_20 rfl rfl ?_
    refine J_iald 2 C iX0_isTaken_21 rfl (vp_in_nI (n := k) (by omega) (by decide)) ?_
    rw [nI_clamp (n := k) (by omega)]
    refine J_i2l C iX0_isTaken_22 ?_
    refine J_lload_n C iX0_isTaken_23 rfl rfl ?_
    refine J_lcmp C iX0_isTaken_24 ?_
    refine J_ifneL 30 C iX0_isTaken_25 rfl (fun h25 => ?_) (fun h25 => ?_)
    · refine J_iinc ((nI k) + 1) [(3, .int ((nI k) + 1)), (1, .long x), (0, .ref (b 0))] C iX0_isTaken_30 rfl rfl (by decide) rfl ?_
      rw [show (nI k) + 1 = nI (k + 1) from nI_add _ _]
      refine J_goto 2 C iX0_isTaken_33 rfl ?_
      refine J_lvm [(3, .int (nI (k + 1))), (1, .long x), (0, .ref (b 0))] rfl ?_
      exact ih (lt_s hI h25)
    · refine J_iconst 1 C iX0_isTaken_28 rfl ?_
      exact J_zret C E iX0_isTaken_29 rfl ⟨by rw [tkF_some hk h25 hI]; rfl, rfl⟩

set_option maxRecDepth 100000 in
set_option maxHeartbeats 4000000 in
theorem c_X0_addLaw {Z : GZ} {l : Launch} {b L : Nat → Nat} {m : Nat} {hc sc : Int32} {nm : Nat → Int64} {bP bH op f1 f2 l0 l1 l2 l3 l4 l5 : Nat → Int32} {wl : va_W} {q la : Nat} {y0 y1 y2 y3 y4 y5 : Int32} (hm : m ≤ 16) (hq : wl[q]? = some (la, .inr (1, [.int y0, .int y1, .int y2, .int y3, .int y4, .int y5]))) : Ct Z l yX0_addLaw cX0_addLaw 3 none (rmK 1) [.ref (b 0), .ref la] (wBk Z b L hc (nI m) sc nm bP bH op f1 f2 l0 l1 l2 l3 l4 l5 ++ wl) (fun v w => v = none ∧ w = (wBk Z b L hc (nI (inc m 16)) sc nm bP bH op f1 f2 (updC l0 m 16 y0) (updC l1 m 16 y1) (updC l2 m 16 y2) (updC l3 m 16 y3) (updC l4 m 16 y4) (updC l5 m 16 y5) ++ wl)) := by
  refine Ct.ofJ (own := RX0) (nm := "addLaw") (lv0 := [(0, .ref (b 0)), (1, .ref la)]) (by decide) rfl rfl (Nat.le_of_ble_eq_true rfl) rfl (fun X hXl C E => ?_)
  subst hXl
  refine J_aload_n C iX0_addLaw_0 rfl rfl ?_
  refine J_get (.int (nI m)) 0 C iX0_addLaw_1 gf_X0_42 rfl rfl ?_
  refine J_iflt 31 C iX0_addLaw_4 rfl (fun h4 => absurd h4 (nI_pos (n := m) (by omega))) (fun h4 => ?_)
  by_cases hm2 : m < 16
  · refine J_aload_n C iX0_addLaw_7 rfl rfl ?_
    refine J_get (.int (nI m)) 0 C iX0_addLaw_8 gf_X0_42 rfl rfl ?_
    refine J_aload_n C iX0_addLaw_11 rfl rfl ?_
    refine J_get (.ref (b 4)) 0 C iX0_addLaw_12 gf_X0_24 rfl rfl ?_
    refine J_alen (t0 := 3) 16 4 C iX0_addLaw_15 rfl rfl rfl ?_
    refine J_icmpge 31 C iX0_addLaw_16 rfl (fun h16 => absurd h16 (nI_ge (a := m) (b := 16) (by omega) (by omega))) (fun h16 => ?_)
    refine J_aload_n C iX0_addLaw_19 rfl rfl ?_
    refine J_get (.ref (b 4)) 0 C iX0_addLaw_20 gf_X0_24 rfl rfl ?_
    refine J_aload_n C iX0_addLaw_23 rfl rfl ?_
    refine J_get (.int (nI m)) 0 C iX0_addLaw_24 gf_X0_42 rfl rfl ?_
    refine J_aaldL 4 C iX0_addLaw_27 rfl (vp_in_nI (n := m) (by omega) (by decide)) ?_
    rw [nI_clamp (n := m) (by omega)]
    refine J_st (.ref (L m) :: []) rfl ?_
    refine J_goto 32 C iX0_addLaw_28 rfl ?_
    refine J_astore_n [(2, .ref (L m)), (0, .ref (b 0)), (1, .ref la)] C iX0_addLaw_32 rfl (by decide) rfl ?_
    refine J_aload_n C iX0_addLaw_33 rfl rfl ?_
    refine J_ifnull C iX0_addLaw_34 ?_
    refine J_aload_n C iX0_addLaw_37 rfl rfl ?_
    refine J_aload_n C iX0_addLaw_38 rfl rfl ?_
    refine J_cV (As := [.ref la]) (st := []) (rc2 := (rmK 1).cells) (rs2 := (rmK 1).slots) C iX0_addLaw_39 lm_X0_67 yc_X2_become yv_X2_become (c_X2_become (q1 := 8 + m) (q2 := 24 + q) (ap_at (bk_at hm2)) (ap_at2 hq bk_len) (by omega)) (q0 := 8 + m) (ci := 1) rfl rfl (ap_at (bk_at hm2)) rfl ⟨by decide, by decide⟩ (Nat.le_of_ble_eq_true rfl) rfl rfl ?_
    rintro _ _ ⟨rfl, rfl⟩
    refine J_st ([]) rfl ?_
    refine J_ws (wBk Z b L hc (nI m) sc nm bP bH op f1 f2 (upd l0 m y0) (upd l1 m y1) (upd l2 m y2) (upd l3 m y3) (upd l4 m y4) (upd l5 m y5) ++ wl) (ap_set (by rw [bk_len]; omega) (bk_set hm2 y0 y1 y2 y3 y4 y5)) ?_
    refine J_aload_n C iX0_addLaw_42 rfl rfl ?_
    refine J_dup C iX0_addLaw_43 rfl ?_
    refine J_get (.int (nI m)) 0 C iX0_addLaw_44 gf_X0_42 rfl rfl ?_
    refine J_iconst 1 C iX0_addLaw_47 rfl ?_
    refine J_iadd C iX0_addLaw_48 ?_
    rw [show (nI m) + 1 = nI (m + 1) from nI_add _ _]
    refine J_put (wBk Z b L hc (nI (m + 1)) sc nm bP bH op f1 f2 (upd l0 m y0) (upd l1 m y1) (upd l2 m y2) (upd l3 m y3) (upd l4 m y4) (upd l5 m y5) ++ wl) 0 C iX0_addLaw_49 pf_X0_42 rfl rfl rfl (Nat.le_of_ble_eq_true rfl) rfl ?_
    exact J_vret C E iX0_addLaw_52 ⟨rfl, by simp only [inc, updC, if_pos hm2]⟩
  · refine J_aload_n C iX0_addLaw_7 rfl rfl ?_
    refine J_get (.int (nI m)) 0 C iX0_addLaw_8 gf_X0_42 rfl rfl ?_
    refine J_aload_n C iX0_addLaw_11 rfl rfl ?_
    refine J_get (.ref (b 4)) 0 C iX0_addLaw_12 gf_X0_24 rfl rfl ?_
    refine J_alen (t0 := 3) 16 4 C iX0_addLaw_15 rfl rfl rfl ?_
    refine J_icmpge 31 C iX0_addLaw_16 rfl (fun h16 => ?_) (fun h16 => absurd (nI_le (a := 16) (b := m) (by omega) (by omega)) h16)
    refine J_null C iX0_addLaw_31 ?_
    refine J_astore_nN [(2, .null), (0, .ref (b 0)), (1, .ref la)] C iX0_addLaw_32 rfl (by decide) rfl ?_
    refine J_aload_nN C iX0_addLaw_33 rfl rfl ?_
    refine J_ifnullN 52 C iX0_addLaw_34 rfl ?_
    exact J_vret C E iX0_addLaw_52 ⟨rfl, by simp only [inc, updC, if_neg hm2]⟩

set_option maxRecDepth 100000 in
set_option maxHeartbeats 4000000 in
theorem c_X0_become {Z : GZ} {l : Launch} {b L : Nat → Nat} {hc lc sc : Int32} {nm : Nat → Int64} {bP bH op f1 f2 l0 l1 l2 l3 l4 l5 : Nat → Int32} {c M : Nat → Nat} {m u t : Nat} {nm2 : Nat → Int64} {bP2 bH2 op2 f12 f22 k0 k1 k2 k3 k4 k5 : Nat → Int32} (hm : m ≤ 12) (hu : u ≤ 16) (ht : t ≤ 400)  : Ct Z l yX0_become cX0_become 4 none (rmK 3) [.ref (b 0), .ref (c 0)] (wBk Z b L hc lc sc nm bP bH op f1 f2 l0 l1 l2 l3 l4 l5 ++ wBk Z c M (nI m) (nI u) (nI t) nm2 bP2 bH2 op2 f12 f22 k0 k1 k2 k3 k4 k5) (fun v w => v = none ∧ w = (wBk Z b L (nI m) (nI u) (nI t) (fillN nm2 nm m) (fillN bP2 bP m) (fillN bH2 bH m) (fillN op2 op t) (fillN f12 f1 t) (fillN f22 f2 t) (fillN k0 l0 u) (fillN k1 l1 u) (fillN k2 l2 u) (fillN k3 l3 u) (fillN k4 l4 u) (fillN k5 l5 u) ++ wBk Z c M (nI m) (nI u) (nI t) nm2 bP2 bH2 op2 f12 f22 k0 k1 k2 k3 k4 k5)) := by
  refine Ct.ofJ (own := RX0) (nm := "become") (lv0 := [(0, .ref (b 0)), (1, .ref (c 0))]) (by decide) rfl rfl (Nat.le_of_ble_eq_true rfl) rfl (fun X hXl C E => ?_)
  subst hXl
  refine J_aload_n C iX0_become_0 rfl rfl ?_
  refine J_cVb (As := []) (st := []) (rc2 := (rmK 3).cells) (rs2 := (rmK 3).slots) C iX0_become_1 lm_X0_48 yc_X0_empty yv_X0_empty c_X0_empty (q0 := 0) rfl rfl rfl [] (wBk Z c M (nI m) (nI u) (nI t) nm2 bP2 bH2 op2 f12 f22 k0 k1 k2 k3 k4 k5) rfl rfl ⟨by decide, by decide⟩ (Nat.le_of_ble_eq_true rfl) rfl rfl ?_
  rintro _ _ ⟨rfl, rfl⟩
  refine J_st ([]) rfl ?_
  refine J_ws (wBk Z b L 0 0 0 nm bP bH op f1 f2 l0 l1 l2 l3 l4 l5 ++ wBk Z c M (nI m) (nI u) (nI t) nm2 bP2 bH2 op2 f12 f22 k0 k1 k2 k3 k4 k5) rfl ?_
  refine J_iconst 0 C iX0_become_4 rfl ?_
  refine J_istore_n [(2, .int 0), (0, .ref (b 0)), (1, .ref (c 0))] C iX0_become_5 rfl (by decide) rfl ?_
  refine J_lvm [(2, .int 0), (0, .ref (b 0)), (1, .ref (c 0))] rfl ?_
  refine J_ws (wBk Z b L 0 0 0 (fillN nm2 nm 0) (fillN bP2 bP 0) (fillN bH2 bH 0) op f1 f2 l0 l1 l2 l3 l4 l5 ++ wBk Z c M (nI m) (nI u) (nI t) nm2 bP2 bH2 op2 f12 f22 k0 k1 k2 k3 k4 k5) (by simp only [fillN_0]) ?_
  refine J_for (fun k => [(2, .int (nI k)), (0, .ref (b 0)), (1, .ref (c 0))]) (fun k => (wBk Z b L (nI k) 0 0 (fillN nm2 nm k) (fillN bP2 bP k) (fillN bH2 bH k) op f1 f2 l0 l1 l2 l3 l4 l5 ++ wBk Z c M (nI m) (nI u) (nI t) nm2 bP2 bH2 op2 f12 f22 k0 k1 k2 k3 k4 k5)) m 0 (by omega) ?_ (fun k hk0 hk ih => ?_)
  · refine J_iload_n C iX0_become_6 rfl rfl ?_
    refine J_aload_n C iX0_become_7 rfl rfl ?_
    refine J_get (.int (nI m)) 24 C iX0_become_8 gf_X0_38 rfl rfl ?_
    refine J_icmpge 48 C iX0_become_11 rfl (fun h11 => ?_) (fun h11 => absurd (nI_le (a := m) (b := m) (by omega) (by omega)) h11)
    refine J_iconst 0 C iX0_become_48 rfl ?_
    refine J_istore_n [(2, .int 0), (0, .ref (b 0)), (1, .ref (c 0))] C iX0_become_49 rfl (by decide) rfl ?_
    refine J_lvm [(2, .int 0), (0, .ref (b 0)), (1, .ref (c 0))] rfl ?_
    refine J_ws (wBk Z b L (nI m) 0 0 (fillN nm2 nm m) (fillN bP2 bP m) (fillN bH2 bH m) (fillN op2 op 0) (fillN f12 f1 0) (fillN f22 f2 0) l0 l1 l2 l3 l4 l5 ++ wBk Z c M (nI m) (nI u) (nI t) nm2 bP2 bH2 op2 f12 f22 k0 k1 k2 k3 k4 k5) (by simp only [fillN_0]) ?_
    refine J_for (fun k => [(2, .int (nI k)), (0, .ref (b 0)), (1, .ref (c 0))]) (fun k => (wBk Z b L (nI m) 0 (nI k) (fillN nm2 nm m) (fillN bP2 bP m) (fillN bH2 bH m) (fillN op2 op k) (fillN f12 f1 k) (fillN f22 f2 k) l0 l1 l2 l3 l4 l5 ++ wBk Z c M (nI m) (nI u) (nI t) nm2 bP2 bH2 op2 f12 f22 k0 k1 k2 k3 k4 k5)) t 0 (by omega) ?_ (fun k hk0 hk ih => ?_)
    · refine J_iload_n C iX0_become_50 rfl rfl ?_
      refine J_aload_n C iX0_become_51 rfl rfl ?_
      refine J_get (.int (nI t)) 24 C iX0_become_52 gf_X0_45 rfl rfl ?_
      refine J_icmpge 93 C iX0_become_55 rfl (fun h55 => ?_) (fun h55 => absurd (nI_le (a := t) (b := t) (by omega) (by omega)) h55)
      refine J_iconst 0 C iX0_become_93 rfl ?_
      refine J_istore_n [(2, .int 0), (0, .ref (b 0)), (1, .ref (c 0))] C iX0_become_94 rfl (by decide) rfl ?_
      refine J_lvm [(2, .int 0), (0, .ref (b 0)), (1, .ref (c 0))] rfl ?_
      refine J_ws (wBk Z b L (nI m) 0 (nI t) (fillN nm2 nm m) (fillN bP2 bP m) (fillN bH2 bH m) (fillN op2 op t) (fillN f12 f1 t) (fillN f22 f2 t) (fillN k0 l0 0) (fillN k1 l1 0) (fillN k2 l2 0) (fillN k3 l3 0) (fillN k4 l4 0) (fillN k5 l5 0) ++ wBk Z c M (nI m) (nI u) (nI t) nm2 bP2 bH2 op2 f12 f22 k0 k1 k2 k3 k4 k5) (by simp only [fillN_0]) ?_
      refine J_for (fun k => [(2, .int (nI k)), (0, .ref (b 0)), (1, .ref (c 0))]) (fun k => (wBk Z b L (nI m) (nI k) (nI t) (fillN nm2 nm m) (fillN bP2 bP m) (fillN bH2 bH m) (fillN op2 op t) (fillN f12 f1 t) (fillN f22 f2 t) (fillN k0 l0 k) (fillN k1 l1 k) (fillN k2 l2 k) (fillN k3 l3 k) (fillN k4 l4 k) (fillN k5 l5 k) ++ wBk Z c M (nI m) (nI u) (nI t) nm2 bP2 bH2 op2 f12 f22 k0 k1 k2 k3 k4 k5)) u 0 (by omega) ?_ (fun k hk0 hk ih => ?_)
      · refine J_iload_n C iX0_become_95 rfl rfl ?_
        refine J_aload_n C iX0_become_96 rfl rfl ?_
        refine J_get (.int (nI u)) 24 C iX0_become_97 gf_X0_42 rfl rfl ?_
        refine J_icmpge 124 C iX0_become_100 rfl (fun h100 => ?_) (fun h100 => absurd (nI_le (a := u) (b := u) (by omega) (by omega)) h100)
        exact J_vret C E iX0_become_124 ⟨rfl, rfl⟩
      · refine J_iload_n C iX0_become_95 rfl rfl ?_
        refine J_aload_n C iX0_become_96 rfl rfl ?_
        refine J_get (.int (nI u)) 24 C iX0_become_97 gf_X0_42 rfl rfl ?_
        refine J_icmpge 124 C iX0_become_100 rfl (fun h100 => absurd h100 (nI_ge (a := k) (b := u) (by omega) (by omega))) (fun h100 => ?_)
        refine J_aload_n C iX0_become_103 rfl rfl ?_
        refine J_iload_n C iX0_become_104 rfl rfl ?_
        refine J_cVb (As := [.int (nI k)]) (st := []) (rc2 := (rmK 3).cells) (rs2 := (rmK 3).slots) C iX0_become_105 lm_X0_59 yc_X0_lawAt yv_X0_lawAt (c_X0_lawAt (m := u) (i := k) (by omega) (by omega)) (q0 := 0) rfl rfl rfl (wBk Z b L (nI m) (nI k) (nI t) (fillN nm2 nm m) (fillN bP2 bP m) (fillN bH2 bH m) (fillN op2 op t) (fillN f12 f1 t) (fillN f22 f2 t) (fillN k0 l0 k) (fillN k1 l1 k) (fillN k2 l2 k) (fillN k3 l3 k) (fillN k4 l4 k) (fillN k5 l5 k)) [] rfl rfl ⟨by decide, by decide⟩ (Nat.le_of_ble_eq_true rfl) rfl rfl ?_
        rintro _ _ ⟨rfl, rfl⟩
        refine J_st (.ref (M k) :: []) rfl ?_
        refine J_ws (wBk Z b L (nI m) (nI k) (nI t) (fillN nm2 nm m) (fillN bP2 bP m) (fillN bH2 bH m) (fillN op2 op t) (fillN f12 f1 t) (fillN f22 f2 t) (fillN k0 l0 k) (fillN k1 l1 k) (fillN k2 l2 k) (fillN k3 l3 k) (fillN k4 l4 k) (fillN k5 l5 k) ++ wBk Z c M (nI m) (nI u) (nI t) nm2 bP2 bH2 op2 f12 f22 k0 k1 k2 k3 k4 k5) rfl ?_
        refine J_astore_n [(3, .ref (M k)), (2, .int (nI k)), (0, .ref (b 0)), (1, .ref (c 0))] C iX0_become_108 rfl (by decide) rfl ?_
        refine J_aload_n C iX0_become_109 rfl rfl ?_
        refine J_ifnull C iX0_become_110 ?_
        refine J_aload_n C iX0_become_113 rfl rfl ?_
        refine J_aload_n C iX0_become_114 rfl rfl ?_
        refine J_cV (As := [.ref (M k)]) (st := []) (rc2 := (rmK 3).cells) (rs2 := (rmK 3).slots) C iX0_become_115 lm_X0_63 yc_X0_addLaw yv_X0_addLaw (c_X0_addLaw (m := k) (q := 8 + k) (by omega) (bk_at (by omega))) (q0 := 0) rfl rfl rfl rfl ⟨by decide, by decide⟩ (Nat.le_of_ble_eq_true rfl) rfl rfl ?_
        rintro _ _ ⟨rfl, rfl⟩
        refine J_st ([]) rfl ?_
        refine J_iinc ((nI k) + 1) [(2, .int ((nI k) + 1)), (3, .ref (M k)), (0, .ref (b 0)), (1, .ref (c 0))] C iX0_become_118 rfl rfl (by decide) rfl ?_
        rw [show (nI k) + 1 = nI (k + 1) from nI_add _ _]
        refine J_goto 95 C iX0_become_121 rfl ?_
        refine J_lvm [(2, .int (nI (k + 1))), (0, .ref (b 0)), (1, .ref (c 0))] rfl ?_
        rw [inc_lt (by omega), updC_lt (by omega), updC_lt (by omega), updC_lt (by omega), updC_lt (by omega), updC_lt (by omega), updC_lt (by omega), fillN_s, fillN_s, fillN_s, fillN_s, fillN_s, fillN_s]
        exact ih
    · refine J_iload_n C iX0_become_50 rfl rfl ?_
      refine J_aload_n C iX0_become_51 rfl rfl ?_
      refine J_get (.int (nI t)) 24 C iX0_become_52 gf_X0_45 rfl rfl ?_
      refine J_icmpge 93 C iX0_become_55 rfl (fun h55 => absurd h55 (nI_ge (a := k) (b := t) (by omega) (by omega))) (fun h55 => ?_)
      refine J_iload_n C iX0_become_58 rfl rfl ?_
      refine J_sipush 400 C iX0_become_59 rfl ?_
      refine J_icmpge 93 C iX0_become_62 rfl (fun h62 => absurd h62 (nI_ge (a := k) (b := 400) (by omega) (by omega))) (fun h62 => ?_)
      refine J_aload_n C iX0_become_65 rfl rfl ?_
      refine J_aload_n C iX0_become_66 rfl rfl ?_
      refine J_get (.ref (c 5)) 24 C iX0_become_67 gf_X0_28 rfl rfl ?_
      refine J_iload_n C iX0_become_70 rfl rfl ?_
      refine J_iald 29 C iX0_become_71 rfl (vp_in_nI (n := k) (by omega) (by decide)) ?_
      rw [nI_clamp (n := k) (by omega)]
      refine J_aload_n C iX0_become_72 rfl rfl ?_
      refine J_get (.ref (c 6)) 24 C iX0_become_73 gf_X0_31 rfl rfl ?_
      refine J_iload_n C iX0_become_76 rfl rfl ?_
      refine J_iald 30 C iX0_become_77 rfl (vp_in_nI (n := k) (by omega) (by decide)) ?_
      rw [nI_clamp (n := k) (by omega)]
      refine J_aload_n C iX0_become_78 rfl rfl ?_
      refine J_get (.ref (c 7)) 24 C iX0_become_79 gf_X0_34 rfl rfl ?_
      refine J_iload_n C iX0_become_82 rfl rfl ?_
      refine J_iald 31 C iX0_become_83 rfl (vp_in_nI (n := k) (by omega) (by decide)) ?_
      rw [nI_clamp (n := k) (by omega)]
      refine J_cVb (As := [.int (op2 k), .int (f12 k), .int (f22 k)]) (st := []) (rc2 := (rmK 3).cells) (rs2 := (rmK 3).slots) C iX0_become_84 lm_X0_55 yc_X0_addStep yv_X0_addStep (c_X0_addStep (m := k) (by omega)) (q0 := 0) rfl rfl rfl [] (wBk Z c M (nI m) (nI u) (nI t) nm2 bP2 bH2 op2 f12 f22 k0 k1 k2 k3 k4 k5) rfl rfl ⟨by decide, by decide⟩ (Nat.le_of_ble_eq_true rfl) rfl rfl ?_
      rintro _ _ ⟨rfl, rfl⟩
      refine J_st ([]) rfl ?_
      refine J_ws (wBk Z b L (nI m) 0 (nI (inc k 400)) (fillN nm2 nm m) (fillN bP2 bP m) (fillN bH2 bH m) (updC (fillN op2 op k) k 400 (op2 k)) (updC (fillN f12 f1 k) k 400 (f12 k)) (updC (fillN f22 f2 k) k 400 (f22 k)) l0 l1 l2 l3 l4 l5 ++ wBk Z c M (nI m) (nI u) (nI t) nm2 bP2 bH2 op2 f12 f22 k0 k1 k2 k3 k4 k5) rfl ?_
      refine J_iinc ((nI k) + 1) [(2, .int ((nI k) + 1)), (0, .ref (b 0)), (1, .ref (c 0))] C iX0_become_87 rfl rfl (by decide) rfl ?_
      rw [show (nI k) + 1 = nI (k + 1) from nI_add _ _]
      refine J_goto 50 C iX0_become_90 rfl ?_
      refine J_lvm [(2, .int (nI (k + 1))), (0, .ref (b 0)), (1, .ref (c 0))] rfl ?_
      rw [inc_lt (by omega), updC_lt (by omega), updC_lt (by omega), updC_lt (by omega), fillN_s, fillN_s, fillN_s]
      exact ih
  · refine J_iload_n C iX0_become_6 rfl rfl ?_
    refine J_aload_n C iX0_become_7 rfl rfl ?_
    refine J_get (.int (nI m)) 24 C iX0_become_8 gf_X0_38 rfl rfl ?_
    refine J_icmpge 48 C iX0_become_11 rfl (fun h11 => absurd h11 (nI_ge (a := k) (b := m) (by omega) (by omega))) (fun h11 => ?_)
    refine J_iload_n C iX0_become_14 rfl rfl ?_
    refine J_bipush 12 C iX0_become_15 rfl ?_
    refine J_icmpge 48 C iX0_become_17 rfl (fun h17 => absurd h17 (nI_ge (a := k) (b := 12) (by omega) (by omega))) (fun h17 => ?_)
    refine J_aload_n C iX0_become_20 rfl rfl ?_
    refine J_aload_n C iX0_become_21 rfl rfl ?_
    refine J_get (.ref (c 1)) 24 C iX0_become_22 gf_X0_9 rfl rfl ?_
    refine J_iload_n C iX0_become_25 rfl rfl ?_
    refine J_lald 25 C iX0_become_26 rfl (vp_in_nI (n := k) (by omega) (by decide)) ?_
    rw [nI_clamp (n := k) (by omega)]
    refine J_aload_n C iX0_become_27 rfl rfl ?_
    refine J_get (.ref (c 2)) 24 C iX0_become_28 gf_X0_15 rfl rfl ?_
    refine J_iload_n C iX0_become_31 rfl rfl ?_
    refine J_iald 26 C iX0_become_32 rfl (vp_in_nI (n := k) (by omega) (by decide)) ?_
    rw [nI_clamp (n := k) (by omega)]
    refine J_aload_n C iX0_become_33 rfl rfl ?_
    refine J_get (.ref (c 3)) 24 C iX0_become_34 gf_X0_19 rfl rfl ?_
    refine J_iload_n C iX0_become_37 rfl rfl ?_
    refine J_iald 27 C iX0_become_38 rfl (vp_in_nI (n := k) (by omega) (by decide)) ?_
    rw [nI_clamp (n := k) (by omega)]
    refine J_cVb (As := [.long (nm2 k), .int (bP2 k), .int (bH2 k)]) (st := []) (rc2 := (rmK 3).cells) (rs2 := (rmK 3).slots) C iX0_become_39 lm_X0_51 yc_X0_addHouse yv_X0_addHouse (c_X0_addHouse (m := k) (by omega)) (q0 := 0) rfl rfl rfl [] (wBk Z c M (nI m) (nI u) (nI t) nm2 bP2 bH2 op2 f12 f22 k0 k1 k2 k3 k4 k5) rfl rfl ⟨by decide, by decide⟩ (Nat.le_of_ble_eq_true rfl) rfl rfl ?_
    rintro _ _ ⟨rfl, rfl⟩
    refine J_st ([]) rfl ?_
    refine J_ws (wBk Z b L (nI (inc k 12)) 0 0 (updCL (fillN nm2 nm k) k 12 (nm2 k)) (updC (fillN bP2 bP k) k 12 (bP2 k)) (updC (fillN bH2 bH k) k 12 (bH2 k)) op f1 f2 l0 l1 l2 l3 l4 l5 ++ wBk Z c M (nI m) (nI u) (nI t) nm2 bP2 bH2 op2 f12 f22 k0 k1 k2 k3 k4 k5) rfl ?_
    refine J_iinc ((nI k) + 1) [(2, .int ((nI k) + 1)), (0, .ref (b 0)), (1, .ref (c 0))] C iX0_become_42 rfl rfl (by decide) rfl ?_
    rw [show (nI k) + 1 = nI (k + 1) from nI_add _ _]
    refine J_goto 6 C iX0_become_45 rfl ?_
    refine J_lvm [(2, .int (nI (k + 1))), (0, .ref (b 0)), (1, .ref (c 0))] rfl ?_
    rw [inc_lt (by omega), updCL_lt (by omega), updC_lt (by omega), updC_lt (by omega), fillNL_s, fillN_s, fillN_s]
    exact ih

