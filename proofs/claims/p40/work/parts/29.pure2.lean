def loopC (tk : Nat → Nat) (sf : Nat → Int32) (c1 c2 : Nat) (x1 x2 : Int32) (v : PS → PS) : Nat → PS → PS
  | 0, q => q
  | f + 1, q => if nowC tk q = c1 then loopC tk sf c1 c2 x1 x2 v f (stepC x1 0 0 (v (takeC tk sf (nowC tk q) q))) else if nowC tk q = c2 then loopC tk sf c1 c2 x1 x2 v f (stepC x2 0 0 (v (takeC tk sf (nowC tk q) q))) else q
def loopD (tk : Nat → Nat) (sf : Nat → Int32) (c : Nat) (x : Int32) (v : PS → PS) : Nat → PS → PS
  | 0, q => q
  | f + 1, q => if nowC tk q = c then loopD tk sf c x v f (stepC x 0 0 (v (takeC tk sf c q))) else q
def prodC (tk : Nat → Nat) (sf : Nat → Int32) (v : PS → PS) (q : PS) : PS := loopC tk sf 32 33 12 13 v 400 (v q)
def sumC (tk : Nat → Nat) (sf : Nat → Int32) (v : PS → PS) (q : PS) : PS := loopC tk sf 30 31 10 11 (prodC tk sf v) 400 (prodC tk sf v q)
def bothC (tk : Nat → Nat) (sf : Nat → Int32) (v : PS → PS) (q : PS) : PS := loopD tk sf 20 21 v 400 (v q)
def testC (tk : Nat → Nat) (sf : Nat → Int32) (v : PS → PS) (q : PS) : PS := loopD tk sf 21 22 (bothC tk sf v) 400 (bothC tk sf v q)
/-- min, max: v reads the deeper values -/
def choC (tk : Nat → Nat) (sf : Nat → Int32) (d : Nat) (v : PS → PS) (q : PS) : PS :=
  if brkC (deepC tk sf 24 d (takeC tk sf (nowC tk q) q)) = true then deepC tk sf 24 d (takeC tk sf (nowC tk q) q)
  else stepC (if nowC tk q = 22 then 14 else 15) 0 0 (takeC tk sf 25 (sumC tk sf v (takeC tk sf 29 (sumC tk sf v (deepC tk sf 24 d (takeC tk sf (nowC tk q) q))))))
/-- lost of, cast of, height of -/
def abtC (tk : Nat → Nat) (sf : Nat → Int32) (vf nm : Nat → Int64) (m : Nat) (x : Int32) (q : PS) : PS :=
  stepC x (hseC tk vf nm m (takeC tk sf 16 (takeC tk sf (nowC tk q) q))) 0 (knwC tk sf vf nm m (takeC tk sf 16 (takeC tk sf (nowC tk q) q)))
def valB (tk : Nat → Nat) (sf : Nat → Int32) (vf nm : Nat → Int64) (m d : Nat) (v : PS → PS) (q : PS) : PS :=
  if nowC tk q = 40 then stepC 0 (valT tk vf 40 q).toInt32 0 (takeC tk sf 40 q)
  else if nowC tk q = 11 then stepC 1 0 0 (takeC tk sf 11 q)
  else if nowC tk q = 15 then stepC 2 0 0 (takeC tk sf 15 q)
  else if nowC tk q = 12 then abtC tk sf vf nm m 3 q
  else if nowC tk q = 13 then abtC tk sf vf nm m 4 q
  else if nowC tk q = 14 then abtC tk sf vf nm m 5 q
  else if nowC tk q = 31 then (if brkC (deepC tk sf 31 d q) = true then deepC tk sf 31 d q else stepC 8 0 0 (v (deepC tk sf 31 d q)))
  else if nowC tk q = 24 then (if brkC (deepC tk sf 24 d q) = true then deepC tk sf 24 d q else takeC tk sf 25 (sumC tk sf v (deepC tk sf 24 d q)))
  else if nowC tk q = 22 then choC tk sf d v q
  else if nowC tk q = 23 then choC tk sf d v q
  else failC sf q
def valC (tk : Nat → Nat) (sf : Nat → Int32) (vf nm : Nat → Int64) (m : Nat) : Nat → Nat → PS → PS
  | 0, d => valB tk sf vf nm m d (fun q => q)
  | r + 1, d => valB tk sf vf nm m d (valC tk sf vf nm m r (d + 1))
/-- comparisons: v reads the values of this depth -/
def cmpC (tk : Nat → Nat) (sf : Nat → Int32) (v : PS → PS) (q : PS) : PS :=
  if cmpK (nowC tk (sumC tk sf v q)) = -1 then failC sf (sumC tk sf v q)
  else stepC (cmpK (nowC tk (sumC tk sf v q))) 0 0 (sumC tk sf v (takeC tk sf (nowC tk (sumC tk sf v q)) (sumC tk sf v q)))
def sglB (tk : Nat → Nat) (sf : Nat → Int32) (vf nm : Nat → Int64) (m d : Nat) (v u : PS → PS) (q : PS) : PS :=
  if nowC tk q = 19 then (if brkC (deepC tk sf 19 d q) = true then deepC tk sf 19 d q else stepC 9 0 0 (u (deepC tk sf 19 d q)))
  else if nowC tk q = 26 then (if brkC (deepC tk sf 26 d q) = true then deepC tk sf 26 d q else takeC tk sf 27 (testC tk sf u (deepC tk sf 26 d q)))
  else if nowC tk q = 17 then stepC 6 (hseC tk vf nm m (takeC tk sf 17 q)) (hseC tk vf nm m (knwC tk sf vf nm m (takeC tk sf 17 q))) (knwC tk sf vf nm m (knwC tk sf vf nm m (takeC tk sf 17 q)))
  else if nowC tk q = 18 then stepC 7 (hseC tk vf nm m (takeC tk sf 18 q)) 0 (knwC tk sf vf nm m (takeC tk sf 18 q))
  else cmpC tk sf v q
def sglC (tk : Nat → Nat) (sf : Nat → Int32) (vf nm : Nat → Int64) (m : Nat) : Nat → Nat → PS → PS
  | 0, d => sglB tk sf vf nm m d (valC tk sf vf nm m 0 d) (fun q => q)
  | r + 1, d => sglB tk sf vf nm m d (valC tk sf vf nm m (r + 1) d) (sglC tk sf vf nm m r (d + 1))
theorem deep_lt {tk : Nat → Nat} {sf : Nat → Int32} {k d : Nat} {q : PS} {i : Nat} {r : Int32 × Int32 × Nat × (Nat → Int32) × (Nat → Int32) × (Nat → Int32)} (h : deepC tk sf k d q = (i, false, r)) : d < 8 := by
  rcases Nat.lt_or_ge d 8 with c | c
  · exact c
  · rw [deepC, if_neg (by omega)] at h
    obtain ⟨i2, b2, e2, a2, r2⟩ := q
    simp [failC] at h
theorem inc_le {s : Nat} (h : s ≤ 400) : inc s 400 ≤ 400 := by unfold inc; split <;> omega
