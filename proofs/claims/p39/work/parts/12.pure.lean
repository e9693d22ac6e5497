/-! ===== the pump as numbers: S is the reference's row; M is the scribe's ring of the class (0 size, 1 next, 2.. kinds, 22.. days, 42.. firsts, 62.. seconds) ===== -/
abbrev pS : Type := Nat → Int32
abbrev pX : Type := pS × pS
def bI (b : Bool) : Int32 := if b = true then 1 else 0
def jmax (x y : Int32) : Int32 := if x < y then y else x
def jmin (x y : Int32) : Int32 := if y < x then y else x
def jabs (x : Int32) : Int32 := if 0 ≤ x then x else 0 - x
def cN (x : Int32) : Nat := x.toNatClampNeg
def zI (z : Int) : Int32 := Int32.ofInt z
def pIn (v lo hi : Int32) : Bool := decide (lo ≤ v) && decide (v ≤ hi)
def pHas (h : Int32) (n : Nat) : Bool := decide (0 ≤ h) && decide (h < nI n)
def pTbl (S : pS) (h : Nat) (law : Int32) : Int32 := if law = 0 then (S (1 + 6 * h + 0) + 1) / 2 else if law = 1 then 3 else if law = 2 then 4 - S (1 + 6 * h + 2) / 3 else 1
def pTurns (S : pS) (h : Nat) : Int32 := if S 207 = 1 then (pTbl S h (S 203) + 1) / 2 else pTbl S h (S 203)
def pLeft (S : pS) (h : Nat) : Int32 := jmax 0 (pTurns S h - S (1 + 6 * h + 3) - S (1 + 6 * h + 4))
def pFar (S : pS) (a b : Nat) : Int32 := jabs (S (1 + 6 * a + 1) - S (1 + 6 * b + 1))
def pNear (S : pS) (a b : Nat) : Bool := decide (a ≠ b) && decide (pFar S a b ≤ 2)
def pDoQ (S : pS) (a j : Nat) : Bool := pNear S a j && decide (10 ≤ S (1 + 6 * a + 2) + S (1 + 6 * j + 2))
def pVotes (S : pS) (a j : Nat) : Nat → Int
  | 0 => 0
  | n + 1 => pVotes S a j n + (if n = a ∨ n = j then 0 else if pFar S n j < pFar S n a then 1 else -1)
def pWin (S : pS) (n a j : Nat) : Nat := if 0 < pVotes S a j n then j else a
def pPl (S : pS) (h : Int32) : Nat → Int32
  | 0 => -1
  | k + 1 => if S (50 + k) = h then nI k else pPl S h k
def pNbs (S : pS) (h : Nat) : Nat → Int32
  | 0 => 0
  | k + 1 => pNbs S h k ||| (if pNear S h k = true then 1 <<< (nI k &&& 31) else 0)
def pWant (S : pS) (h : Nat) : Nat → Nat
  | 0 => 0
  | k + 1 => if pTbl S h (nI (pWant S h k)) < pTbl S h (nI (k + 1)) then k + 1 else pWant S h k
def pMem (S : pS) (law : Int32) : Nat → Int32
  | 0 => 0
  | k + 1 => pMem S law k + (if nI (pWant S k 3) = law then S (1 + 6 * k + 0) else 0)
def pMost (S : pS) (n : Nat) : Nat → Nat
  | 0 => 0
  | k + 1 => if pMem S (nI (pMost S n k)) n < pMem S (nI (k + 1)) n then k + 1 else pMost S n k
def pAll (S : pS) : Nat → Int32
  | 0 => 0
  | k + 1 => pAll S k + pLeft S (cN (S (50 + k)))
def pBring (w : Int32) : Int32 := 10 - jmin 50 w / 10
def pBrings (S : pS) : Nat → Int32
  | 0 => 0
  | k + 1 => pBrings S k + pBring (S 205 + nI k)
def pWell (S : pS) (drawn : Int32) : Nat → Int32
  | 0 => S 204
  | k + 1 => jmin 999 (jmax 0 (pWell S drawn k - drawn) + 10 * S 208)
def pTemp (S : pS) : Nat → Int32
  | 0 => 0
  | k + 1 => pTemp S k + S (1 + 6 * k + 2)
/-! the changes -/
def sShift (S : pS) : pS := fun k => if 123 ≤ k ∧ k < 199 then S (k + 4) else S k
def sPut (S : pS) (t : Nat) (kind day one other : Int32) : pS := upd (upd (upd (upd (upd S (123 + 4 * t) kind) (123 + 4 * t + 1) day) (123 + 4 * t + 2) one) (123 + 4 * t + 3) other) 122 (nI (t + 1))
def sNote (S : pS) (kind one other : Int32) : pS := if cN (S 122) = 20 then sPut (sShift S) 19 kind (S 206) one other else sPut S (cN (S 122)) kind (S 206) one other
def mNote (M : pS) (kind day one other : Int32) : pS := upd (upd (upd (upd (upd (upd M (2 + cN (M 1)) kind) (22 + cN (M 1)) day) (42 + cN (M 1)) one) (62 + cN (M 1)) other) 1 (nI ((cN (M 1) + 1) % 20))) 0 (jmin 20 (M 0 + 1))
def oNote (X : pX) (kind one other : Int32) : pX := (sNote X.1 kind one other, mNote X.2 kind (X.1 206) one other)
def sSq1 (S : pS) (l : Nat) : pS := upd S (1 + 6 * l + 4) (S (1 + 6 * l + 4) + 1)
def sSq2 (S : pS) (l : Nat) : pS := upd S (1 + 6 * l + 2) (jmin 9 (S (1 + 6 * l + 2) + 1))
def sSq3 (S : pS) (w : Nat) : pS := upd S (1 + 6 * w + 2) (jmax 0 (S (1 + 6 * w + 2) - 1))
def sSq4 (S : pS) (w l : Nat) : pS := upd S (58 + 8 * w + l) (S (58 + 8 * w + l) + 1)
def sSq5 (S : pS) : pS := upd S 213 (S 213 + 1)
def sSq (S : pS) (w l : Nat) : pS := sSq5 (sSq4 (sSq3 (sSq2 (sSq1 S l) l) w) w l)
def oQuarrel (X : pX) (w l : Nat) : pX := oNote (sSq X.1 w l, X.2) 1 (nI w) (nI l)
def sCome (S : pS) (q h : Nat) : pS := upd (upd S (50 + q) (nI h)) 49 (nI (q + 1))
def oJL (n h : Nat) : Nat → pX → Int32 × pX
  | 0, X => (nI 0, (sCome X.1 0 h, X.2))
  | q + 1, X => if pDoQ X.1 (cN (X.1 (50 + q))) h = true then
      (if pWin X.1 n (cN (X.1 (50 + q))) h = h then oJL n h q (upd (oQuarrel X h (cN (X.1 (50 + q)))).1 49 (nI q), (oQuarrel X h (cN (X.1 (50 + q)))).2) else (-1, oQuarrel X (cN (X.1 (50 + q))) h))
    else (nI (q + 1), (sCome X.1 (q + 1) h, X.2))
def sGo (S : pS) (q place : Nat) : pS := upd (fun k => if 50 + place ≤ k ∧ k + 1 < 50 + q then S (k + 1) else S k) 49 (nI (q - 1))
def sPump (S : pS) : pS := upd (upd (upd (upd S 204 (S 204 - pBring (S 205))) 210 (S 210 + pBring (S 205))) 212 (S 212 + 1)) 205 (jmin 50 (S 205 + 1))
def sFetch (S : pS) (h : Nat) (w : Int32) : pS := upd (upd S (1 + 6 * h + 3) (S (1 + 6 * h + 3) + 1)) (1 + 6 * h + 5) (S (1 + 6 * h + 5) + w)
/-- one draw, of a queue of q -/
def oDrawA (X : pX) (q : Nat) : pX := oNote (sFetch (sPump (sGo X.1 q 0)) (cN (X.1 50)) (pBring (X.1 205)), X.2) 0 (nI (cN (X.1 50))) (pBring (X.1 205))
def oDraw1 (X : pX) (q : Nat) : pX := if 0 < pLeft (oDrawA X q).1 (cN (X.1 50)) then (sCome (oDrawA X q).1 (q - 1) (cN (X.1 50)), (oDrawA X q).2) else oDrawA X q
def oDrawN : Nat → pX → Int32 × pX
  | 0, X => (0, X)
  | k + 1, X => ((oDrawN k X).1 + pBring ((oDrawN k X).2.1 205), oDraw1 (oDrawN k X).2 (cN ((oDrawN k X).2.1 49)))
def sSweep : Nat → pS → pS
  | 0, S => S
  | k + 1, S => sSweep k (if pLeft S (cN (S (50 + k))) = 0 then sGo S (cN (S 49)) k else S)
def oVote (X : pX) : Int32 × pX := (nI (pMost X.1 (cN (X.1 0)) 3), (sSweep (cN (X.1 49)) (oNote (upd X.1 203 (nI (pMost X.1 (cN (X.1 0)) 3)), X.2) 2 (nI (pMost X.1 (cN (X.1 0)) 3)) 0).1, (oNote (upd X.1 203 (nI (pMost X.1 (cN (X.1 0)) 3)), X.2) 2 (nI (pMost X.1 (cN (X.1 0)) 3)) 0).2))
def sClear (n : Nat) (S : pS) : pS := fun k => if 1 ≤ k ∧ (k - 1) / 6 < n ∧ ((k - 1) % 6 = 3 ∨ (k - 1) % 6 = 4) then 0 else S k
def pRain (S : pS) : Int32 := S 204 + 10 * S 208
def sRain (S : pS) : pS := upd (upd (upd (upd (upd S 214 (S 214 + 10 * S 208)) 204 (jmin 999 (pRain S))) 211 (S 211 + (pRain S - jmin 999 (pRain S)))) 206 (S 206 + 1)) 207 (bI (decide (jmin 999 (pRain S) < 100)))
def sNight1 (n : Nat) (S : pS) : pS := sRain (sClear n (upd S 49 0))
def sNightN (n : Nat) : Nat → pS → pS
  | 0, S => S
  | k + 1, S => sNight1 n (sNightN n k S)
def oRenew (X : pX) : Int32 × pX := (X.1 205, oNote (upd (upd X.1 209 (X.1 209 - 20)) 205 0, X.2) 3 0 0)
def sHouse (S : pS) (n : Nat) (m p t : Int32) : pS := upd (upd (upd (upd S (1 + 6 * n + 0) m) (1 + 6 * n + 1) p) (1 + 6 * n + 2) t) 0 (nI (n + 1))
/-! why something is refused: the reason (0: it isn't) and its detail -/
def wJoin (S : pS) (h : Int32) : Int32 × Int32 := if pHas h (cN (S 0)) = true then (if pPl S h (cN (S 49)) = -1 then (if pLeft S (cN h) = 0 then (6, S (1 + 6 * cN h + 3)) else (0, 0)) else (4, pPl S h (cN (S 49)))) else (3, h)
def wLeave (S : pS) (h : Int32) : Int32 × Int32 := if pHas h (cN (S 0)) = true then (if pPl S h (cN (S 49)) = -1 then (5, 0) else (0, 0)) else (3, h)
def wDraw (S : pS) (m : Int32) : Int32 × Int32 := if pIn m 1 50 = true then (if pAll S (cN (S 49)) < m then (7, pAll S (cN (S 49))) else if S 204 < pBrings S (cN m) then (8, S 204) else (0, 0)) else (1, 0)
def wVote (S : pS) : Int32 × Int32 := if S 0 = 0 then (3, 0) else (0, 0)
def wRain (r : Int32) : Int32 × Int32 := if pIn r 0 9 = true then (0, 0) else (1, 0)
def wNight (m : Int32) : Int32 × Int32 := if pIn m 1 50 = true then (0, 0) else (1, 0)
def wCoins (S : pS) (m : Int32) : Int32 × Int32 := if pIn m 1 100 = true then (if 500 < S 209 + m then (2, 500) else (0, 0)) else (1, 0)
def wLeather (S : pS) : Int32 × Int32 := if S 209 < 20 then (9, 20 - S 209) else (0, 0)
def wHouse (S : pS) (m p t : Int32) : Int32 × Int32 := if (pIn m 1 9 && pIn p 0 19 && pIn t 0 9) = true then (if S 0 = 8 then (2, 8) else (0, 0)) else (1, 0)
theorem bI_0 {b : Bool} : bI b = 0 ↔ b = false := by cases b <;> simp [bI]
theorem bI_1 {b : Bool} : ¬ bI b = 0 ↔ b = true := by cases b <;> simp [bI]
theorem bI_nar (b : Bool) : narrow .boolean (.int (bI b)) = .int (bI b) := by cases b <;> rfl
