theorem lgc_gt {x y : Int64} : 0 < lg_cmp x y ↔ y < x := by
  unfold lg_cmp
  rcases i64_tri x y with h | h | h
  · have h2 : ¬ y < x := Int64.lt_asymm h
    have h3 : x ≠ y := Int64.ne_of_lt h
    have h4 : x ≤ y := Int64.le_of_lt h
    have h5 : ¬ y ≤ x := Int64.not_le.mpr h
    simp [h, h2, h3, h4, h5]
  · subst h
    simp [Int64.lt_irrefl]
  · have h2 : ¬ x < y := Int64.lt_asymm h
    have h3 : x ≠ y := (Int64.ne_of_lt h).symm
    have h4 : y ≤ x := Int64.le_of_lt h
    have h5 : ¬ x ≤ y := Int64.not_le.mpr h
    simp [h, h2, h3, h4, h5]
theorem lgc_lt {x y : Int64} : lg_cmp x y < 0 ↔ x < y := by
  unfold lg_cmp
  rcases i64_tri x y with h | h | h
  · have h2 : ¬ y < x := Int64.lt_asymm h
    have h3 : x ≠ y := Int64.ne_of_lt h
    have h4 : x ≤ y := Int64.le_of_lt h
    have h5 : ¬ y ≤ x := Int64.not_le.mpr h
    simp [h, h2, h3, h4, h5]
  · subst h
    simp [Int64.lt_irrefl]
  · have h2 : ¬ x < y := Int64.lt_asymm h
    have h3 : x ≠ y := (Int64.ne_of_lt h).symm
    have h4 : y ≤ x := Int64.le_of_lt h
    have h5 : ¬ x ≤ y := Int64.not_le.mpr h
    simp [h, h2, h3, h4, h5]
theorem lgc_ge {x y : Int64} : 0 ≤ lg_cmp x y ↔ y ≤ x := by
  unfold lg_cmp
  rcases i64_tri x y with h | h | h
  · have h2 : ¬ y < x := Int64.lt_asymm h
    have h3 : x ≠ y := Int64.ne_of_lt h
    have h4 : x ≤ y := Int64.le_of_lt h
    have h5 : ¬ y ≤ x := Int64.not_le.mpr h
    simp [h, h2, h3, h4, h5]
  · subst h
    simp [Int64.lt_irrefl]
  · have h2 : ¬ x < y := Int64.lt_asymm h
    have h3 : x ≠ y := (Int64.ne_of_lt h).symm
    have h4 : y ≤ x := Int64.le_of_lt h
    have h5 : ¬ x ≤ y := Int64.not_le.mpr h
    simp [h, h2, h3, h4, h5]
theorem J_ifgtL {Z : GZ} {X : CX} {R : Room} {nL : Nat} {Q : State → Prop} {rc rs pc nx : Nat} {lv : List (Nat × Value)} {st : List Value} {ws : va_W} {cc : ByteArray} {own : String} {x y : Int64} {off : Int} (tgt : Nat) (C : Cx Z X cc nL own) (d : dI cc pc (.ifCond .gt off) 3 nx) (ht : (pc : Int) + off = (tgt : Int)) (kt : y < x → Jd Z X R nL Q rc rs tgt lv st ws) (kf : ¬ y < x → Jd Z X R nL Q rc rs nx lv st ws) : Jd Z X R nL Q rc rs pc lv (.int (lg_cmp x y) :: st) ws :=
  J_ifgt tgt C d ht (fun h => kt (lgc_gt.mp h)) (fun h => kf (fun e => h (lgc_gt.mpr e)))
theorem J_ifltL {Z : GZ} {X : CX} {R : Room} {nL : Nat} {Q : State → Prop} {rc rs pc nx : Nat} {lv : List (Nat × Value)} {st : List Value} {ws : va_W} {cc : ByteArray} {own : String} {x y : Int64} {off : Int} (tgt : Nat) (C : Cx Z X cc nL own) (d : dI cc pc (.ifCond .lt off) 3 nx) (ht : (pc : Int) + off = (tgt : Int)) (kt : x < y → Jd Z X R nL Q rc rs tgt lv st ws) (kf : ¬ x < y → Jd Z X R nL Q rc rs nx lv st ws) : Jd Z X R nL Q rc rs pc lv (.int (lg_cmp x y) :: st) ws :=
  J_iflt tgt C d ht (fun h => kt (lgc_lt.mp h)) (fun h => kf (fun e => h (lgc_lt.mpr e)))
theorem J_ifgeL {Z : GZ} {X : CX} {R : Room} {nL : Nat} {Q : State → Prop} {rc rs pc nx : Nat} {lv : List (Nat × Value)} {st : List Value} {ws : va_W} {cc : ByteArray} {own : String} {x y : Int64} {off : Int} (tgt : Nat) (C : Cx Z X cc nL own) (d : dI cc pc (.ifCond .ge off) 3 nx) (ht : (pc : Int) + off = (tgt : Int)) (kt : y ≤ x → Jd Z X R nL Q rc rs tgt lv st ws) (kf : ¬ y ≤ x → Jd Z X R nL Q rc rs nx lv st ws) : Jd Z X R nL Q rc rs pc lv (.int (lg_cmp x y) :: st) ws :=
  J_ifge tgt C d ht (fun h => kt (lgc_ge.mp h)) (fun h => kf (fun e => h (lgc_ge.mpr e)))
def psS : PS → Nat
  | (_, _, _, _, s, _) => s
/-- an order: the state, the order's number, house, first step, first step of the second sum -/
def ordC (tk : Nat → Nat) (sf : Nat → Int32) (vf nm : Nat → Int64) (m : Nat) (q : PS) : PS × Int32 × Int32 × Int32 × Int32 :=
  if nowC tk q = 4 then (sumC tk sf (valC tk sf vf nm m 8 0) (takeC tk sf 6 (sumC tk sf (valC tk sf vf nm m 8 0) (takeC tk sf 5 (knwC tk sf vf nm m (takeC tk sf 4 q))))), 0, hseC tk vf nm m (takeC tk sf 4 q), nI (psS q), nI (psS (sumC tk sf (valC tk sf vf nm m 8 0) (takeC tk sf 5 (knwC tk sf vf nm m (takeC tk sf 4 q))))))
  else if nowC tk q = 7 then (knwC tk sf vf nm m (takeC tk sf 7 q), 1, hseC tk vf nm m (takeC tk sf 7 q), nI (psS q), nI (psS q))
  else (sumC tk sf (valC tk sf vf nm m 8 0) (takeC tk sf 9 (knwC tk sf vf nm m (takeC tk sf 8 q))), 2, hseC tk vf nm m (takeC tk sf 8 q), nI (psS q), nI (psS (sumC tk sf (valC tk sf vf nm m 8 0) (takeC tk sf 9 (knwC tk sf vf nm m (takeC tk sf 8 q))))))
def lawT (tk : Nat → Nat) (sf : Nat → Int32) (u : Nat) (q : PS) : PS := if u < 16 then takeC tk sf 3 q else tellC 4 (sf q.1) (takeC tk sf 3 q)
def lawW (tk : Nat → Nat) (sf : Nat → Int32) (vf nm : Nat → Int64) (m : Nat) (q : PS) : PS := if nowC tk q = 10 then testC tk sf (sglC tk sf vf nm m 8 0) (takeC tk sf 10 q) else q
def lawE (tk : Nat → Nat) (sf : Nat → Int32) (vf nm : Nat → Int64) (m : Nat) (r : PS × Int32 × Int32 × Int32 × Int32) : PS × Int32 × Int32 × Int32 × Int32 × Int32 × Int32 :=
  (lawW tk sf vf nm m r.1, r.2.1, r.2.2.1, r.2.2.2.1, r.2.2.2.2, nI (psS r.1), nI (psS (lawW tk sf vf nm m r.1)))
def lawC (tk : Nat → Nat) (sf : Nat → Int32) (vf nm : Nat → Int64) (m : Nat) (u : Nat) (q : PS) : PS × Int32 × Int32 × Int32 × Int32 × Int32 × Int32 := lawE tk sf vf nm m (ordC tk sf vf nm m (lawT tk sf u q))
def houA (tk : Nat → Nat) (sf : Nat → Int32) (vf nm : Nat → Int64) (m : Nat) (q : PS) : PS :=
  if hnF nm (valT tk vf 39 q) m = -1 then (if m < 12 then takeC tk sf 39 q else tellC 4 (sf q.1) (takeC tk sf 39 q)) else tellC 2 (sf q.1) (takeC tk sf 39 q)
def houB (tk : Nat → Nat) (sf : Nat → Int32) (vf : Nat → Int64) (bP : Nat → Int32) (m : Nat) (q : PS) : PS :=
  if 99 < valT tk vf 40 q then tellC 5 (sf q.1) (takeC tk sf 40 q) else if tkF bP (valT tk vf 40 q) m = true then tellC 5 (sf q.1) (takeC tk sf 40 q) else takeC tk sf 40 q
def houD (tk : Nat → Nat) (sf : Nat → Int32) (vf : Nat → Int64) (q : PS) : PS :=
  if valT tk vf 40 q ≤ 30 then takeC tk sf 40 q else tellC 5 (sf q.1) (takeC tk sf 40 q)
def houG (tk : Nat → Nat) (sf : Nat → Int32) (vf : Nat → Int64) (q : PS) : PS × Int64 := (houD tk sf vf q, valT tk vf 40 q)
def houF (tk : Nat → Nat) (sf : Nat → Int32) (vf : Nat → Int64) (bP : Nat → Int32) (m : Nat) (q : PS) : PS × Int64 × Int64 := ((houG tk sf vf (takeC tk sf 2 (houB tk sf vf bP m q))).1, valT tk vf 40 q, (houG tk sf vf (takeC tk sf 2 (houB tk sf vf bP m q))).2)
def houH (tk : Nat → Nat) (sf : Nat → Int32) (vf nm : Nat → Int64) (m : Nat) (bP : Nat → Int32) (q : PS) : PS × Int64 × Int64 × Int64 := ((houF tk sf vf bP m (takeC tk sf 1 (houA tk sf vf nm m q))).1, valT tk vf 39 q, (houF tk sf vf bP m (takeC tk sf 1 (houA tk sf vf nm m q))).2)
def houC (tk : Nat → Nat) (sf : Nat → Int32) (vf nm : Nat → Int64) (m : Nat) (bP : Nat → Int32) (q : PS) : PS × Int64 × Int64 × Int64 := houH tk sf vf nm m bP (takeC tk sf 0 q)
