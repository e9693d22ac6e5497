/-! ===== what the lane's methods need of numbers ===== -/
theorem pHas_t {h : Int32} {n : Nat} (h1 : ¬ h < 0) (h2 : ¬ nI n ≤ h) : 1 = bI (pHas h n) := by
  have a : 0 ≤ h := Int32.not_lt.mp h1
  have b : h < nI n := Int32.not_le.mp h2
  simp [bI, pHas, a, b]
theorem pHas_f1 {h : Int32} {n : Nat} (h1 : h < 0) : 0 = bI (pHas h n) := by
  have a : ¬ 0 ≤ h := Int32.not_le.mpr h1
  simp [bI, pHas, a]
theorem pHas_f2 {h : Int32} {n : Nat} (h2 : nI n ≤ h) : 0 = bI (pHas h n) := by
  have a : ¬ h < nI n := Int32.not_lt.mpr h2
  simp [bI, pHas, a]
theorem pHas_iff {h : Int32} {n : Nat} (hn : n < 2 ^ 31) : pHas h n = true ↔ ∃ j : Nat, j < n ∧ h = nI j := by
  constructor
  · intro q
    simp only [pHas, Bool.and_eq_true, decide_eq_true_eq] at q
    obtain ⟨j, hj, rfl⟩ := nI_of (Int32.not_lt.mpr q.1)
    exact ⟨j, (nI_ltI hj hn).mp q.2, rfl⟩
  · rintro ⟨j, hj, rfl⟩
    have a : 0 ≤ nI j := nI_pos' (by omega)
    have b : nI j < nI n := nI_lt hj hn
    simp [pHas, a, b]
theorem wq_t {x y : Int32} (h1 : ¬ 2 < x) (h2 : ¬ y < 10) : 1 = bI (decide (x ≤ 2) && decide (10 ≤ y)) := by
  have a : x ≤ 2 := Int32.not_lt.mp h1
  have b : 10 ≤ y := Int32.not_lt.mp h2
  simp [bI, a, b]
theorem wq_f1 {x y : Int32} (h1 : 2 < x) : 0 = bI (decide (x ≤ 2) && decide (10 ≤ y)) := by
  have a : ¬ x ≤ 2 := Int32.not_le.mpr h1
  simp [bI, a]
theorem wq_f2 {x y : Int32} (h1 : y < 10) : 0 = bI (decide (x ≤ 2) && decide (10 ≤ y)) := by
  have a : ¬ 10 ≤ y := Int32.not_le.mpr h1
  simp [bI, a]
theorem pNb_skip1 {S : pS} {h k : Nat} (c : k = h) : pNbs S h k = pNbs S h (k + 1) := by
  simp [pNbs, pNear, c]
theorem pNb_skip2 {S : pS} {h k : Nat} (c : 2 < pFar S h k) : pNbs S h k = pNbs S h (k + 1) := by
  have a : ¬ pFar S h k ≤ 2 := Int32.not_le.mpr c
  simp [pNbs, pNear, a]
theorem pNb_put {S : pS} {h k : Nat} (c : ¬ k = h) (c2 : ¬ 2 < pFar S h k) : pNbs S h k ||| (1 <<< (nI k &&& 31)) = pNbs S h (k + 1) := by
  have a : pFar S h k ≤ 2 := Int32.not_lt.mp c2
  have b : ¬ h = k := fun q => c q.symm
  simp [pNbs, pNear, a, b]
theorem zI_add (a b : Int) : zI a + zI b = zI (a + b) := (Int32.ofInt_add a b).symm
theorem pV_skip {S : pS} {a j k : Nat} (c : k = a ∨ k = j) : zI (-(pVotes S a j k)) = zI (-(pVotes S a j (k + 1))) := by
  rw [pVotes, if_pos c]
  simp
theorem pV_gt {S : pS} {a j k : Nat} (c1 : ¬ k = a) (c2 : ¬ k = j) (c3 : pFar S k j < pFar S k a) : zI (-(pVotes S a j k)) + (-1) = zI (-(pVotes S a j (k + 1))) := by
  rw [pVotes, if_neg (by omega), if_pos c3, show (-1 : Int32) = zI (-1) from by decide, zI_add]
  congr 1
  omega
theorem pV_le {S : pS} {a j k : Nat} (c1 : ¬ k = a) (c2 : ¬ k = j) (c3 : ¬ pFar S k j < pFar S k a) : zI (-(pVotes S a j k)) + 1 = zI (-(pVotes S a j (k + 1))) := by
  rw [pVotes, if_neg (by omega), if_neg c3, show (1 : Int32) = zI 1 from by decide, zI_add]
  congr 1
  omega
theorem pVotes_b (S : pS) (a j : Nat) : ∀ n : Nat, -(n : Int) ≤ pVotes S a j n ∧ pVotes S a j n ≤ n
  | 0 => by simp [pVotes]
  | n + 1 => by
    have := pVotes_b S a j n
    rw [pVotes]
    split
    · omega
    · split <;> omega
theorem zneg {z : Int} (h1 : -8 ≤ z) (h2 : z ≤ 8) : zI (-z) < 0 ↔ 0 < z := by
  have h : z = -8 ∨ z = -7 ∨ z = -6 ∨ z = -5 ∨ z = -4 ∨ z = -3 ∨ z = -2 ∨ z = -1 ∨ z = 0 ∨ z = 1 ∨ z = 2 ∨ z = 3 ∨ z = 4 ∨ z = 5 ∨ z = 6 ∨ z = 7 ∨ z = 8 := by omega
  rcases h with rfl | rfl | rfl | rfl | rfl | rfl | rfl | rfl | rfl | rfl | rfl | rfl | rfl | rfl | rfl | rfl | rfl <;> decide
theorem zpos {z : Int} (h1 : -8 ≤ z) (h2 : z ≤ 8) : 0 < zI z ↔ 0 < z := by
  have h : z = -8 ∨ z = -7 ∨ z = -6 ∨ z = -5 ∨ z = -4 ∨ z = -3 ∨ z = -2 ∨ z = -1 ∨ z = 0 ∨ z = 1 ∨ z = 2 ∨ z = 3 ∨ z = 4 ∨ z = 5 ∨ z = 6 ∨ z = 7 ∨ z = 8 := by omega
  rcases h with rfl | rfl | rfl | rfl | rfl | rfl | rfl | rfl | rfl | rfl | rfl | rfl | rfl | rfl | rfl | rfl | rfl <;> decide
theorem pWin_t {S : pS} {a j n : Nat} (hn : n ≤ 8) (h : zI (-(pVotes S a j n)) < 0) : nI j = nI (pWin S n a j) := by
  have b := pVotes_b S a j n
  rw [pWin, if_pos ((zneg (by omega) (by omega)).mp h)]
theorem pWin_f {S : pS} {a j n : Nat} (hn : n ≤ 8) (h : ¬ zI (-(pVotes S a j n)) < 0) : nI a = nI (pWin S n a j) := by
  have b := pVotes_b S a j n
  rw [pWin, if_neg (mt (zneg (by omega) (by omega)).mpr h)]
theorem pTbl_0 {S : pS} {i : Nat} {v : Int32} (e : v = 0) : (S (1 + 6 * i + 0) + 1) / 2 = pTbl S i v := by rw [pTbl, if_pos e]
theorem pTbl_1 {S : pS} {i : Nat} {v : Int32} (n0 : ¬ v = 0) (e : v = 1) : 3 = pTbl S i v := by rw [pTbl, if_neg n0, if_pos e]
theorem pTbl_2 {S : pS} {i : Nat} {v : Int32} (n0 : ¬ v = 0) (n1 : ¬ v = 1) (e : v = 2) : 4 - S (1 + 6 * i + 2) / 3 = pTbl S i v := by rw [pTbl, if_neg n0, if_neg n1, if_pos e]
theorem pTbl_3 {S : pS} {i : Nat} {v : Int32} (n0 : ¬ v = 0) (n1 : ¬ v = 1) (n2 : ¬ v = 2) : 1 = pTbl S i v := by rw [pTbl, if_neg n0, if_neg n1, if_neg n2]
theorem pWant_no {S : pS} {h k : Nat} (c : pTbl S h (nI (k + 1)) ≤ pTbl S h (nI (pWant S h k))) : pWant S h k = pWant S h (k + 1) := by
  show _ = if _ then _ else _
  rw [if_neg (Int32.not_lt.mpr c)]
theorem pWant_yes {S : pS} {h k : Nat} (c : ¬ pTbl S h (nI (k + 1)) ≤ pTbl S h (nI (pWant S h k))) : k + 1 = pWant S h (k + 1) := by
  show _ = if _ then _ else _
  rw [if_pos (Int32.not_le.mp c)]
theorem pMem_no {S : pS} {v : Int32} {k : Nat} (c : ¬ nI (pWant S k 3) = v) : pMem S v k = pMem S v (k + 1) := by
  show _ = _ + if _ then _ else _
  rw [if_neg c]
  simp
theorem pMem_yes {S : pS} {v : Int32} {k : Nat} (c : nI (pWant S k 3) = v) : pMem S v k + S (1 + 6 * k + 0) = pMem S v (k + 1) := by
  show _ = _ + if _ then _ else _
  rw [if_pos c]
theorem pMost_no {S : pS} {n k : Nat} (c : pMem S (nI (k + 1)) n ≤ pMem S (nI (pMost S n k)) n) : pMost S n k = pMost S n (k + 1) := by
  show _ = if _ then _ else _
  rw [if_neg (Int32.not_lt.mpr c)]
theorem pMost_yes {S : pS} {n k : Nat} (c : ¬ pMem S (nI (k + 1)) n ≤ pMem S (nI (pMost S n k)) n) : k + 1 = pMost S n (k + 1) := by
  show _ = if _ then _ else _
  rw [if_pos (Int32.not_le.mp c)]
theorem sClear_0 (S : pS) : sClear 0 S = S := by
  funext k
  unfold sClear
  rw [if_neg (by omega)]
theorem sClear_s (S : pS) (n : Nat) : sClear (n + 1) S = upd (upd (sClear n S) (1 + 6 * n + 3) 0) (1 + 6 * n + 4) 0 := by
  funext k
  unfold sClear upd
  try dsimp only
  by_cases h1 : k = 1 + 6 * n + 4
  · rw [if_pos h1, if_pos (by omega)]
  · by_cases h2 : k = 1 + 6 * n + 3
    · rw [if_neg h1, if_pos h2, if_pos (by omega)]
    · rw [if_neg h1, if_neg h2]
      by_cases h3 : 1 ≤ k ∧ (k - 1) / 6 < n ∧ ((k - 1) % 6 = 3 ∨ (k - 1) % 6 = 4)
      · rw [if_pos h3, if_pos (by omega)]
      · rw [if_neg h3, if_neg (by omega)]
theorem sw_out {x : Int32} (lo hi : Int) (h : ∀ v : Int, lo ≤ v → v ≤ hi → ¬ x.toInt = v) : x.toInt < lo ∨ hi < x.toInt := by
  by_cases h1 : x.toInt < lo
  · exact Or.inl h1
  · by_cases h2 : hi < x.toInt
    · exact Or.inr h2
    · exact absurd rfl (h x.toInt (by omega) (by omega))
