theorem dr_eq {S : pS} {d : Int32} (h : S 207 = 0 ∨ S 207 = 1) : (if S 207 = 0 then pDr S d 100 else 0) = pDrR S d := by
  unfold pDrR
  rcases h with h | h
  · rw [if_pos h, if_neg (by rw [h]; decide)]
  · rw [if_neg (by rw [h]; decide), if_pos h]
def rsF (f0 f1 f2 : Int32) : pS := fun k => if k = 8 then f0 else if k = 9 then f1 else f2
