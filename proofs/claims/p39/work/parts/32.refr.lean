/-! ===== the reference: its questions: which exception (0: none), the answer ===== -/
def gT (t v : Int32) : Int32 := if t = 0 then v else 0
theorem pIn_nat0 {v : Int32} {k : Nat} (hk : k < 2 ^ 31) (h : pIn v 0 (nI k) = true) : ∃ j : Nat, j ≤ k ∧ v = nI j := by
  simp only [pIn, Bool.and_eq_true, decide_eq_true_eq] at h
  obtain ⟨j, hj, rfl⟩ := nI_of (x := v) (fun q => Int32.lt_irrefl (Int32.lt_of_le_of_lt h.1 q))
  exact ⟨j, (nI_leI hj hk).mp h.2, rfl⟩
def tReason (F : pS) (x : Int32) : Int32 := if pIn x 0 2 = true then (if F 8 = 0 then 2 else 0) else 1
def vReason (F : pS) (x : Int32) : Int32 := if x = 0 then F 8 else if x = 1 then F 9 else F 10
def tHo (n : Nat) (h x : Int32) : Int32 := if pHas h n = true then (if pIn x 0 8 = true then 0 else 2) else 1
def vHo (S : pS) (q : Nat) (h x : Int32) : Int32 := if x = 3 then pTurns S (cN h) else if x = 4 then pLeft S (cN h) else if x = 8 then pPl S h q else if x = 0 then S (1 + 6 * cN h + 0) else if x = 1 then S (1 + 6 * cN h + 1) else if x = 2 then S (1 + 6 * cN h + 2) else if x = 5 then S (1 + 6 * cN h + 3) else if x = 6 then S (1 + 6 * cN h + 4) else S (1 + 6 * cN h + 5)
def t1 (b : Bool) : Int32 := if b = true then 0 else 1
def tWin (n : Nat) (a j : Int32) : Int32 := if (pHas a n && pHas j n) = true then (if a = j then 2 else 0) else 1
def tBy (n : Nat) (h v : Int32) : Int32 := if pHas h n = true then (if pIn v 0 3 = true then 0 else 2) else 1
def tTurn (S : pS) (n q : Nat) (h : Int32) : Int32 := if pHas h n = true then (if pPl S h q = -1 then 2 else 0) else 1
def pDrR (S : pS) (d : Int32) : Int32 := if S 207 = 1 then 0 else pDr S d 100
def tDr (S : pS) (d : Int32) : Int32 := if pIn d 0 999 = true then (if pDrR S d = -1 then 2 else 0) else 1
theorem nb_put {S : pS} {i k : Nat} (c : pNear S i k = true) : pNbs S i k ||| (1 <<< (nI k &&& 31)) = pNbs S i (k + 1) := by
  rw [pNbs, if_pos c]
theorem nb_skip {S : pS} {i k : Nat} (c : pNear S i k = false) : pNbs S i k ||| 0 = pNbs S i (k + 1) := by
  rw [pNbs, if_neg (by rw [c]; decide)]
theorem nI_nm1 {k : Nat} (h : k ≤ 100) : ¬ nI k = -1 := by
  intro e
  have h1 : ¬ nI k < 0 := nI_pos (by omega)
  rw [e] at h1
  exact h1 (by decide)
