/-! ===== joining, voting, drawing ===== -/
theorem jl_dec2 {a b : Nat} (h : a = b) : nI a + Int32.ofInt (-1) = nI b - 1 := by
  rw [h, show Int32.ofInt (-1) = -1 from by decide, Int32.sub_eq_add_neg]
theorem wq_do {S : pS} {z i : Nat} (hz : z ≠ i) : (decide (pFar S z i ≤ 2) && decide (10 ≤ S (1 + 6 * z + 2) + S (1 + 6 * i + 2))) = pDoQ S z i := by
  unfold pDoQ pNear
  rw [decide_eq_true hz, Bool.true_and]
theorem oJL_no {n i Q z : Nat} {T U : pS} (hq : 0 < Q) (ez : T (50 + (Q - 1)) = nI z) (hz : z < 8) (hd : pDoQ T z i = false) : oJL n i Q (T, U) = (nI Q, (sCome T Q i, U)) := by
  obtain ⟨k, rfl⟩ : ∃ k, Q = k + 1 := ⟨Q - 1, by omega⟩
  have e2 : cN (T (50 + k)) = z := by rw [show k = k + 1 - 1 by omega, ez, cN_nI (by omega)]
  show (if pDoQ T (cN (T (50 + k))) i = true then _ else _) = _
  rw [e2, if_neg (by rw [hd]; decide)]
theorem oJL_lose {n i Q z : Nat} {T U : pS} (hq : 0 < Q) (ez : T (50 + (Q - 1)) = nI z) (hz : z < 8) (hzi : z ≠ i) (hd : pDoQ T z i = true) (hw : pWin T n z i = z) : oJL n i Q (T, U) = (-1, oQuarrel (T, U) z i) := by
  obtain ⟨k, rfl⟩ : ∃ k, Q = k + 1 := ⟨Q - 1, by omega⟩
  have e2 : cN (T (50 + k)) = z := by rw [show k = k + 1 - 1 by omega, ez, cN_nI (by omega)]
  show (if pDoQ T (cN (T (50 + k))) i = true then (if pWin T n (cN (T (50 + k))) i = i then _ else _) else _) = _
  rw [e2, if_pos hd, if_neg (by rw [hw]; exact hzi)]
theorem oJL_win {n i Q z : Nat} {T U : pS} (hq : 0 < Q) (ez : T (50 + (Q - 1)) = nI z) (hz : z < 8) (hd : pDoQ T z i = true) (hw : ¬ pWin T n z i = z) : oJL n i Q (T, U) = oJL n i (Q - 1) (sGo (oQuarrel (T, U) i z).1 Q (Q - 1), (oQuarrel (T, U) i z).2) := by
  obtain ⟨k, rfl⟩ : ∃ k, Q = k + 1 := ⟨Q - 1, by omega⟩
  have e2 : cN (T (50 + k)) = z := by rw [show k = k + 1 - 1 by omega, ez, cN_nI (by omega)]
  have hw2 : pWin T n z i = i := by
    unfold pWin at hw ⊢
    split
    · rfl
    · next h => rw [if_neg h] at hw; exact absurd rfl hw
  rw [show k + 1 - 1 = k by omega, sGo_last]
  show (if pDoQ T (cN (T (50 + k))) i = true then (if pWin T n (cN (T (50 + k))) i = i then oJL n i k (upd (oQuarrel (T, U) i (cN (T (50 + k)))).1 49 (nI k), (oQuarrel (T, U) i (cN (T (50 + k)))).2) else _) else _) = _
  rw [e2, if_pos hd, if_pos hw2]
theorem jl_next {n i Q z : Nat} {T U : pS} (hT : pSh T n Q) (ht : cN (T 122) ≤ 20) (hq : 0 < Q) (hi : i < 8) (hz : z < 8) (hnq : ∀ j, j < Q → T (50 + j) ≠ nI i) : ∀ j, j < Q - 1 → sGo (oQuarrel (T, U) i z).1 Q (Q - 1) (50 + j) ≠ nI i := by
  intro j hj
  have : sGo (oQuarrel (T, U) i z).1 Q (Q - 1) (50 + j) = T (50 + j) := by
    unfold sGo
    rw [updn (by omega), if_neg (by omega), qu_off ht hi hz (by have := hT.2.2.2.1; omega)]
  rw [this]
  exact hnq j (by omega)
theorem law_w5 {ty : Nat → ClassId} {a : Nat → Nat} {S M : pS} {v : Int32} : [stB a (upd S 203 v), lnB ty a S, quB ty a S, weB a S, miB ty a M] = [stB a (upd S 203 v), lnB ty a (upd S 203 v), quB ty a (upd S 203 v), weB a (upd S 203 v), miB ty a M] :=
  w5 rfl (lnB_ext fun i hi => (updn (by omega)).symm) (quB_ext fun i h1 h2 => (updn (by omega)).symm) (weB_ext fun i hi => (updn (by omega)).symm) rfl
theorem sweep_s {T : pS} {Q q1 z : Nat} (hq : 0 < Q) (hT : T 49 = nI q1) (h1 : q1 ≤ 8) (ez : T (50 + (Q - 1)) = nI z) (hz : z < 8) : sSweep Q T = sSweep (Q - 1) (if pLeft T z = 0 then sGo T q1 (Q - 1) else T) := by
  obtain ⟨k, rfl⟩ : ∃ k, Q = k + 1 := ⟨Q - 1, by omega⟩
  have e2 : cN (T (50 + k)) = z := by rw [show k = k + 1 - 1 by omega, ez, cN_nI (by omega)]
  show sSweep k (if pLeft T (cN (T (50 + k))) = 0 then sGo T (cN (T 49)) k else T) = _
  rw [e2, hT, cN_nI (by omega)]
  rfl
theorem sGo_eq {S T : pS} {q p i : Nat} (h : ∀ i, (i < 122 ∨ 203 ≤ i) → S i = T i) (hq : q ≤ 8) (hi : i < 122 ∨ 203 ≤ i) : sGo S q p i = sGo T q p i := by
  unfold sGo
  by_cases h0 : i = 49
  · rw [upds h0, upds h0]
  · rw [updn h0, updn h0]
    by_cases c : 50 + p ≤ i ∧ i + 1 < 50 + q
    · rw [if_pos c, if_pos c, h (i + 1) (by omega)]
    · rw [if_neg c, if_neg c, h i hi]
theorem pLeft_eq {S T : pS} {h : Nat} (hh : h < 8) (e : ∀ i, (i < 122 ∨ 203 ≤ i) → S i = T i) : pLeft S h = pLeft T h := by
  unfold pLeft pTurns pTbl
  rw [e (1 + 6 * h + 3) (by omega), e (1 + 6 * h + 4) (by omega), e 207 (by omega), e 203 (by omega), e (1 + 6 * h + 0) (by omega), e (1 + 6 * h + 2) (by omega)]
theorem sweep_eq {n : Nat} : ∀ (k q1 : Nat) (S T : pS), k ≤ q1 → pSh S n q1 → (∀ i, (i < 122 ∨ 203 ≤ i) → S i = T i) → ∀ i, (i < 122 ∨ 203 ≤ i) → sSweep k S i = sSweep k T i
  | 0, _, _, _, _, _, h, i, hi => h i hi
  | k + 1, q1, S, T, hk, hS, h, i, hi => by
    have hn := hS.2.1
    have hc := pSh_c hS (j := k) (by omega)
    show sSweep k (if pLeft S (cN (S (50 + k))) = 0 then sGo S (cN (S 49)) k else S) i = sSweep k (if pLeft T (cN (T (50 + k))) = 0 then sGo T (cN (T 49)) k else T) i
    have h8 := hS.2.2.2.1
    rw [← h (50 + k) (by omega), ← pLeft_eq (by omega) h, ← h 49 (by omega), hS.2.2.1, cN_nI (by omega)]
    by_cases c : pLeft S (cN (S (50 + k))) = 0
    · rw [if_pos c, if_pos c]
      exact sweep_eq k (q1 - 1) _ _ (by omega) (pSh_go hS (by omega)) (fun i hi => sGo_eq h h8 hi) i hi
    · rw [if_neg c, if_neg c]
      exact sweep_eq k q1 _ _ (by omega) hS h i hi
theorem vote_w5 {ty : Nat → ClassId} {a : Nat → Nat} {S M T : pS} {n q : Nat} (hI : pSh S n q) (ht : cN (S 122) ≤ 20) (hT : sSweep q (upd S 203 (nI (pMost S n 3))) = T) : [stB a T, lnB ty a T, quB ty a T, weB a T, miB ty a (mNote M 2 (S 206) (nI (pMost S n 3)) 0)] = [stB a (oVote (S, M)).2.1, lnB ty a (oVote (S, M)).2.1, quB ty a (oVote (S, M)).2.1, weB a (oVote (S, M)).2.1, miB ty a (oVote (S, M)).2.2] := by
  have e0 : cN (S 0) = n := by rw [hI.1, cN_nI (by have := hI.2.1; omega)]
  have e1 : cN (S 49) = q := by rw [hI.2.2.1, cN_nI (by have := hI.2.2.2.1; omega)]
  have hv : (oVote (S, M)).2 = (sSweep q (sNote (upd S 203 (nI (pMost S n 3))) 2 (nI (pMost S n 3)) 0), mNote M 2 (upd S 203 (nI (pMost S n 3)) 206) (nI (pMost S n 3)) 0) := by
    show (sSweep (cN (S 49)) (sNote (upd S 203 (nI (pMost S (cN (S 0)) 3))) 2 (nI (pMost S (cN (S 0)) 3)) 0), mNote M 2 (upd S 203 (nI (pMost S (cN (S 0)) 3)) 206) (nI (pMost S (cN (S 0)) 3)) 0) = _
    rw [e0, e1]
  rw [hv]
  have sh : pSh (upd S 203 (nI (pMost S n 3))) n q := pSh_ext hI fun i hi => updn (by omega)
  have off : ∀ i, (i < 122 ∨ 203 ≤ i) → T i = sSweep q (sNote (upd S 203 (nI (pMost S n 3))) 2 (nI (pMost S n 3)) 0) i := fun i hi => by
    rw [← hT]
    exact sweep_eq q q _ _ (Nat.le_refl q) sh (fun i hi => (sNote_off (by rw [updn (by omega)]; exact ht) hi).symm) i hi
  exact w5 (stB_ext (off _ (by omega)) (off _ (by omega)) (off _ (by omega))) (lnB_ext fun i hi => off _ (by omega)) (quB_ext fun i h1 h2 => off _ (by omega)) (weB_ext fun i hi => off _ (by omega)) (by show _ = miB ty a (mNote M 2 (upd S 203 (nI (pMost S n 3)) 206) _ _); rw [updn (by omega)])
/-! a draw -/
theorem dA_off {S M : pS} {q z i : Nat} (ht : cN (S 122) ≤ 20) (hq : q ≤ 8) (ez : S 50 = nI z) (hz : z < 8) (h : i < 122 ∨ 203 ≤ i) : (oDrawA (S, M) q).1 i = sFetch (sPump (sGo S q 0)) z (pBring (S 205)) i := by
  show sNote (sFetch (sPump (sGo S q 0)) (cN (S 50)) (pBring (S 205))) _ _ _ i = _
  rw [ez, cN_nI (by omega)]
  exact sNote_off (by rw [sFetch_off (by omega), sPump_off (by omega), sGo_off hq (by omega)]; exact ht) h
theorem dA_t {S M : pS} {q z : Nat} (ht : cN (S 122) ≤ 20) (hq : q ≤ 8) (ez : S 50 = nI z) (hz : z < 8) : cN ((oDrawA (S, M) q).1 122) ≤ 20 := by
  refine sNote_t (show cN (sFetch (sPump (sGo S q 0)) (cN (S 50)) (pBring (S 205)) 122) ≤ 20 from ?_)
  rw [ez, cN_nI (by omega), sFetch_off (by omega), sPump_off (by omega), sGo_off hq (by omega)]; exact ht
theorem jmin_idem (x : Int32) : jmin 50 (jmin 50 x) = jmin 50 x := by
  unfold jmin
  by_cases h : x < 50
  · rw [if_pos h, if_pos h]
  · rw [if_neg h]; rfl
theorem pSh_dA {S M : pS} {n q z : Nat} (hI : pSh S n q) (ht : cN (S 122) ≤ 20) (hq0 : 0 < q) (ez : S 50 = nI z) (hz : z < 8) : pSh (oDrawA (S, M) q).1 n (q - 1) := by
  have hq := hI.2.2.2.1
  have g := pSh_go hI hq0
  obtain ⟨h0, hn, h1, hq', he, hd, hr, hw⟩ := g
  have o : ∀ i, (i = 0 ∨ (49 ≤ i ∧ i < 58) ∨ i = 207) → (oDrawA (S, M) q).1 i = sGo S q 0 i := fun i hi => by
    rw [dA_off ht hq ez hz (by omega), sFetch_off (by omega), sPump_off (by omega)]
  refine ⟨by rw [o 0 (by omega)]; exact h0, hn, by rw [o 49 (by omega)]; exact h1, hq', fun j hj => by rw [o _ (by omega)]; exact he j hj, fun i j hi hj e => hd i j hi hj (by rw [o _ (by omega), o _ (by omega)] at e; exact e), by rw [o 207 (by omega)]; exact hr, ?_⟩
  rw [dA_off ht hq ez hz (by omega), sFetch_off (by omega)]
  unfold sPump
  rw [upds rfl]
  exact jmin_idem _
theorem drawA_w5 {ty : Nat → ClassId} {a : Nat → Nat} {S M : pS} {n q z : Nat} (hI : pSh S n q) (ht : cN (S 122) ≤ 20) (hq0 : 0 < q) (ez : S 50 = nI z) (hz : z < 8) : [stB a S, lnB ty a (sFetch S z (pBring (S 205))), quB ty a (sGo S q 0), weB a (sPump S), miB ty a (mNote M 0 (S 206) (nI z) (pBring (S 205)))] = [stB a (oDrawA (S, M) q).1, lnB ty a (oDrawA (S, M) q).1, quB ty a (oDrawA (S, M) q).1, weB a (oDrawA (S, M) q).1, miB ty a (oDrawA (S, M) q).2] := by
  have hq := hI.2.2.2.1
  have o := fun i (h : i < 122 ∨ 203 ≤ i) => dA_off (M := M) ht hq ez hz h
  refine w5 (stB_ext ?_ ?_ ?_) (lnB_ext fun i hi => ?_) (quB_ext fun i h1 h2 => ?_) (weB_ext fun i hi => ?_) ?_
  · rw [o _ (by omega), sFetch_off (by omega), sPump_off (by omega), sGo_off hq (by omega)]
  · rw [o _ (by omega), sFetch_off (by omega), sPump_off (by omega), sGo_off hq (by omega)]
  · rw [o _ (by omega), sFetch_off (by omega), sPump_off (by omega), sGo_off hq (by omega)]
  · rw [o _ (by omega)]
    unfold sFetch
    have b : ∀ j, (j < 49 ∨ (58 ≤ j ∧ j < 122) ∨ j = 213) → sPump (sGo S q 0) j = S j := fun j hj => by rw [sPump_off (by omega), sGo_off hq (by omega)]
    rw [b (1 + 6 * z + 3) (by omega), b (1 + 6 * z + 5) (by omega)]
    by_cases c : i = 1 + 6 * z + 5
    · rw [upds c, upds c]
    · rw [updn c, updn c]
      by_cases c2 : i = 1 + 6 * z + 3
      · rw [upds c2, upds c2]
      · rw [updn c2, updn c2, b i hi]
  · rw [o _ (by omega), sFetch_off (by omega), sPump_off (by omega)]
  · rw [o _ (by omega), sFetch_off (by omega)]
    unfold sPump
    have b : ∀ j, 203 ≤ j → sGo S q 0 j = S j := fun j hj => sGo_off hq (by omega)
    rw [b 204 (by omega), b 205 (by omega), b 210 (by omega), b 212 (by omega)]
    by_cases c1 : i = 205
    · rw [upds c1, upds c1]
    · rw [updn c1, updn c1]
      by_cases c2 : i = 212
      · rw [upds c2, upds c2]
      · rw [updn c2, updn c2]
        by_cases c3 : i = 210
        · rw [upds c3, upds c3]
        · rw [updn c3, updn c3]
          by_cases c4 : i = 204
          · rw [upds c4, upds c4]
          · rw [updn c4, updn c4, b i (by omega)]
  · show _ = miB ty a (mNote M 0 (sFetch (sPump (sGo S q 0)) (cN (S 50)) (pBring (S 205)) 206) (nI (cN (S 50))) (pBring (S 205)))
    rw [ez, cN_nI (by omega), sFetch_off (by omega), sPump_off (by omega), sGo_off hq (by omega)]
theorem draw1_no {S M : pS} {q z : Nat} (ez : S 50 = nI z) (hz : z < 8) (c : pLeft (oDrawA (S, M) q).1 z ≤ 0) : oDraw1 (S, M) q = oDrawA (S, M) q := by
  show (if 0 < pLeft _ (cN (S 50)) then _ else _) = _
  rw [ez, cN_nI (by omega), if_neg (Int32.not_lt.mpr c)]
theorem draw1_yes {S M : pS} {q z : Nat} (ez : S 50 = nI z) (hz : z < 8) (c : ¬ pLeft (oDrawA (S, M) q).1 z ≤ 0) : oDraw1 (S, M) q = (sCome (oDrawA (S, M) q).1 (q - 1) z, (oDrawA (S, M) q).2) := by
  show (if 0 < pLeft _ (cN (S 50)) then (sCome _ _ (cN (S 50)), _) else _) = _
  rw [ez, cN_nI (by omega), if_pos (Int32.not_le.mp c)]
theorem drawN_s {S M T U : pS} {k q1 : Nat} {v : Int32} (h : oDrawN k (S, M) = (v, (T, U))) (e : T 49 = nI q1) (hq : q1 ≤ 8) : oDrawN (k + 1) (S, M) = (v + pBring (T 205), ((oDraw1 (T, U) q1).1, (oDraw1 (T, U) q1).2)) := by
  show ((oDrawN k (S, M)).1 + pBring ((oDrawN k (S, M)).2.1 205), oDraw1 (oDrawN k (S, M)).2 (cN ((oDrawN k (S, M)).2.1 49))) = _
  rw [h]
  show (v + pBring (T 205), oDraw1 (T, U) (cN (T 49))) = _
  rw [e, cN_nI (by omega)]
theorem pWin_lt {S : pS} {n a j : Nat} (ha : a < 8) (hj : j < 8) : pWin S n a j < 8 := by
  unfold pWin
  split <;> assumption
theorem fb_holes : ∀ (m n : Nat) (f : Nat → Nat), (∀ i, i < n → f i < m) → (∀ i j, i < j → j < n → f i ≠ f j) → n ≤ m := by
  intro m
  induction m with
  | zero =>
    intro n f h1 _
    rcases Nat.eq_zero_or_pos n with h | h
    · omega
    · exact absurd (h1 0 h) (Nat.not_lt_zero _)
  | succ m ih =>
    intro n f h1 h2
    by_cases hx : ∃ i, i < n ∧ f i = m
    · obtain ⟨a, ha, hfa⟩ := hx
      have hg := ih (n - 1) (fun i => if i < a then f i else f (i + 1)) (by
        intro i hi
        by_cases q : i < a
        · simp only [if_pos q]
          have b1 := h1 i (by omega)
          have b2 := h2 i a q ha
          omega
        · simp only [if_neg q]
          have b1 := h1 (i + 1) (by omega)
          have b2 := h2 a (i + 1) (by omega) (by omega)
          omega) (by
        intro i j hij hj
        by_cases q : i < a
        · by_cases r : j < a
          · simp only [if_pos q, if_pos r]
            exact h2 i j hij (by omega)
          · simp only [if_pos q, if_neg r]
            exact h2 i (j + 1) (by omega) (by omega)
        · have r : ¬ j < a := by omega
          simp only [if_neg q, if_neg r]
          exact h2 (i + 1) (j + 1) (by omega) (by omega))
      omega
    · have hg := ih n f (fun i hi => by
        have b1 := h1 i hi
        have b2 : f i ≠ m := fun e => hx ⟨i, hi, e⟩
        omega) h2
      omega
/-- a household that does not wait leaves room in the queue -/
theorem pSh_room {S : pS} {n q i : Nat} (h : pSh S n q) (hi : i < n) (hnew : ∀ j, j < q → S (50 + j) ≠ nI i) : q < 8 := by
  have hn := h.2.1
  have hq := h.2.2.2.1
  have hc := fun j (hj : j < q) => pSh_c h hj
  have := fb_holes n (q + 1) (fun j => if j < q then cN (S (50 + j)) else i) (fun j hj => by
    try dsimp only
    split
    · next c => exact (hc j c).2
    · exact hi) (fun a b hab hb e => by
    try dsimp only at e
    rw [if_pos (show a < q by omega)] at e
    by_cases c : b < q
    · rw [if_pos c] at e
      have := h.2.2.2.2.2.1 a b (by omega) c (by rw [(hc a (by omega)).1, (hc b c).1, e])
      omega
    · rw [if_neg c] at e
      exact hnew a (by omega) (by rw [(hc a (by omega)).1, e]))
  omega
