/-! ===== the reference: commands ===== -/
def dRv (S M : pS) (kd v : Int32) : Int32 := if kd = 106 then gR (wJoin S v) (oJL (cN (S 0)) (cN v) (cN (S 49)) (S, M)).1 0 else if kd = 108 then gR (wLeave S v) (pPl S v (cN (S 49))) (-1) else if kd = 100 then gR (wDraw S v) (oDrawN (cN v) (S, M)).1 0 else if kd = 110 then gR (wNight v) (sNightN (cN (S 0)) (cN v) S) S 204 else if kd = 114 then S 208 else if kd = 118 then gR (wVote S) (oVote (S, M)).1 0 else S 205
theorem gR_same {α : Type} {W : Int32 × Int32} {x : α} : gR W x x = x := by
  unfold gR
  split <;> rfl
def rR {α : Type} (w : Int32) (x y : α) : α := if w = -1 then x else y
/-- the reference's row behind the reading of a text -/
def rdF (F ch : pS) (y : Nat) (K U : pS) : pS := upd (upd (upd (upd (upd (upd F 18 (nI y)) 12 0) 19 (nI (raA ch y K U).1)) 20 (raA ch y K U).2.1) 21 (nI (raA ch y K U).2.2.1)) 13 (raA ch y K U).2.1
def rdG (ch : pS) (y : Nat) (K U S M : pS) : (Int32 × Int32) × Nat × pX := cG (raA ch y K U).2.2.2.1 (raA ch y K U).2.2.2.2 (raA ch y K U).2.2.1 0 (S, M)
def cmF (F ch : pS) (y : Nat) (K U S M : pS) (z : Nat) : pS := rR (raA ch y K U).2.1 (enF (hnd (rdG ch y K U S M).1 (upd (upd (rdF F ch y K U) 7 0) 16 0)) 2 (nI (rdG ch y K U S M).2.1 - 1) z) (upd (rdF F ch y K U) 7 1)
theorem rR_0 {α : Type} {w : Int32} {x y : α} (h : w = -1) : rR w x y = x := if_pos h
theorem rR_1 {α : Type} {w : Int32} {x y : α} (h : ¬ w = -1) : rR w x y = y := if_neg h
theorem hnd_e {V W : Int32 × Int32} {F : pS} (h : V = W ∨ (V.1 = 0 ∧ W.1 = 0)) : hnd V F = hnd W F := by
  rcases h with h | ⟨h1, h2⟩
  · rw [h]
  · rw [hnd_0 h1, hnd_0 h2]
theorem hnd_21 {W : Int32 × Int32} {F : pS} : hnd W F 21 = F 21 := by
  unfold hnd
  split <;> rfl
