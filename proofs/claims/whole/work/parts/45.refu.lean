/-! ===== the reference: commands ===== -/
def dRv (S M : pS) (kd v : Int32) : Int32 := if kd = 106 then gR (wJoin S v) (oJL (cN (S 0)) (cN v) (cN (S 49)) (S, M)).1 0 else if kd = 108 then gR (wLeave S v) (pPl S v (cN (S 49))) (-1) else if kd = 100 then gR (wDraw S v) (oDrawN (cN v) (S, M)).1 0 else if kd = 110 then gR (wNight v) (sNightN (cN (S 0)) (cN v) S) S 204 else if kd = 114 then S 208 else if kd = 118 then gR (wVote S) (oVote (S, M)).1 0 else S 205
theorem gR_same {α : Type} {W : Int32 × Int32} {x : α} : gR W x x = x := by
  unfold gR
  split <;> rfl
