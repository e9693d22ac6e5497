/-! ===== what the queue, the well, the minutes and the refusal need ===== -/
theorem pHas_n {j n : Nat} (h : j < n) (hn : n < 2 ^ 31) : pHas (nI j) n = true := (pHas_iff hn).mpr ⟨j, h, rfl⟩
theorem pIn_t {v lo hi : Int32} (h1 : ¬ v < lo) (h2 : ¬ hi < v) : 1 = bI (pIn v lo hi) := by
  simp [bI, pIn, Int32.not_lt.mp h1, Int32.not_lt.mp h2]
theorem pIn_f1 {v lo hi : Int32} (h1 : v < lo) : 0 = bI (pIn v lo hi) := by
  simp [bI, pIn, Int32.not_le.mpr h1]
theorem pIn_f2 {v lo hi : Int32} (h1 : hi < v) : 0 = bI (pIn v lo hi) := by
  simp [bI, pIn, Int32.not_le.mpr h1]
theorem pPl_none {S : pS} {h : Int32} : ∀ {q : Nat}, (∀ i, i < q → ¬ S (50 + i) = h) → pPl S h q = -1
  | 0, _ => rfl
  | q + 1, hi => by
    show (if _ then _ else _) = _
    rw [if_neg (hi q (Nat.lt_succ_self q))]
    exact pPl_none (fun i h => hi i (Nat.lt_succ_of_lt h))
theorem pPl_found {S : pS} {h : Int32} {k : Nat} (e : S (50 + k) = h) : ∀ {q : Nat}, (∀ i j, i < q → j < q → S (50 + i) = S (50 + j) → i = j) → k < q → pPl S h q = nI k
  | 0, _, hk => absurd hk (by omega)
  | q + 1, hd, hk => by
    show (if _ then _ else _) = _
    by_cases c : S (50 + q) = h
    · rw [if_pos c, hd q k (by omega) hk (c.trans e.symm)]
    · rw [if_neg c]
      have : k ≠ q := fun z => c (by rw [← z]; exact e)
      exact pPl_found e (fun i j hi hj => hd i j (by omega) (by omega)) (by omega)
/-- the queue while a place is left: what stands behind it has moved up, up to k -/
def sGoK (S : pS) (q place k : Nat) : pS := upd (fun i => if 50 + place ≤ i ∧ i < 50 + k then S (i + 1) else S i) 49 (nI (q - 1))
theorem sGoK_0 (S : pS) (q p : Nat) : upd S 49 (nI (q - 1)) = sGoK S q p p := by
  funext i
  unfold sGoK upd
  try dsimp only
  by_cases h : i = 49
  · rw [if_pos h, if_pos h]
  · rw [if_neg h, if_neg h, if_neg (by omega)]
theorem sGoK_s {S : pS} {q p k : Nat} (h : p ≤ k) : sGoK S q p (k + 1) = upd (sGoK S q p k) (50 + k) (sGoK S q p k (50 + (k + 1))) := by
  funext i
  unfold sGoK upd
  try dsimp only
  by_cases h0 : i = 49
  · rw [if_pos h0, if_neg (by omega), if_pos h0]
  · rw [if_neg h0]
    by_cases h1 : i = 50 + k
    · rw [if_pos h1, if_pos (by omega), if_neg (by omega), if_neg (by omega), h1]
      rfl
    · rw [if_neg h1, if_neg h0]
      by_cases h2 : 50 + p ≤ i ∧ i < 50 + k
      · rw [if_pos h2, if_pos (by omega)]
      · rw [if_neg h2, if_neg (by omega)]
theorem sGoK_e {S : pS} {q p : Nat} (h : 0 < q) : sGoK S q p (q - 1) = sGo S q p := by
  funext i
  unfold sGoK sGo upd
  try dsimp only
  by_cases h0 : i = 49
  · rw [if_pos h0, if_pos h0]
  · rw [if_neg h0, if_neg h0]
    by_cases h2 : 50 + p ≤ i ∧ i + 1 < 50 + q
    · rw [if_pos h2, if_pos (by omega)]
    · rw [if_neg h2, if_neg (by omega)]
theorem cN_nI {n : Nat} (h : n < 2 ^ 31) : cN (nI n) = n := nI_clamp h
theorem mNote_x {M : pS} {x : Nat} (h1 : M 1 = nI x) (hx : x < 20) (k d a b : Int32) : mNote M k d a b = upd (upd (upd (upd (upd (upd M (2 + x) k) (22 + x) d) (42 + x) a) (62 + x) b) 1 (nI ((x + 1) % 20))) 0 (jmin 20 (M 0 + 1)) := by
  unfold mNote
  rw [h1, cN_nI (by omega)]
def pDr (S : pS) (d : Int32) : Nat → Int32
  | 0 => -1
  | f + 1 => if pWell S d (100 - f) < 100 then nI (100 - f) else pDr S d f
theorem pDr_yes {S : pS} {d : Int32} {k : Nat} (hk : k < 100) (c : pWell S d (k + 1) < 100) : pDr S d (100 - k) = nI (k + 1) := by
  rw [show 100 - k = (99 - k) + 1 by omega]
  show (if _ then _ else _) = _
  rw [show 100 - (99 - k) = k + 1 by omega, if_pos c]
theorem pDr_no {S : pS} {d : Int32} {k : Nat} (hk : k < 100) (c : ¬ pWell S d (k + 1) < 100) : pDr S d (100 - k) = pDr S d (100 - (k + 1)) := by
  rw [show 100 - k = (99 - k) + 1 by omega]
  show (if _ then _ else _) = _
  rw [show 100 - (99 - k) = k + 1 by omega, if_neg c, show 99 - k = 100 - (k + 1) by omega]
theorem night_lo {a : Nat → Nat} {S : pS} {d : Int32} (c : ¬ 999 < S 204 + 10 * S 208) (e : d = bI (decide (S 204 + 10 * S 208 < 100))) : weB a (upd (upd (upd S 214 (S 214 + 10 * S 208)) 204 (S 204 + 10 * S 208)) 207 d) = weB a (sRain S) := by
  have j : jmin 999 (pRain S) = S 204 + 10 * S 208 := by
    unfold jmin pRain
    split
    · rfl
    · next h => exact (Int32.le_antisymm (Int32.not_lt.mp c) (Int32.not_lt.mp h)).symm
  unfold sRain
  rw [j, e]
  have z : S 211 + (pRain S - (S 204 + 10 * S 208)) = S 211 := by
    show S 211 + (S 204 + 10 * S 208 - (S 204 + 10 * S 208)) = S 211
    simp
  rw [z]
  refine weB_ext fun i hi => ?_
  rcases hi with rfl | rfl | rfl | rfl | rfl | rfl | rfl | rfl <;> rfl
theorem night_hi {a : Nat → Nat} {S : pS} (c : 999 < S 204 + 10 * S 208) : weB a (upd (upd (upd (upd (upd S 214 (S 214 + 10 * S 208)) 204 (S 204 + 10 * S 208)) 211 (S 211 + (S 204 + 10 * S 208 - 999))) 204 999) 207 0) = weB a (sRain S) := by
  have j : jmin 999 (pRain S) = 999 := by
    unfold jmin pRain
    rw [if_neg (Int32.not_lt.mpr (Int32.le_of_lt c))]
  unfold sRain
  rw [j]
  refine weB_ext fun i hi => ?_
  rcases hi with rfl | rfl | rfl | rfl | rfl | rfl | rfl | rfl <;> rfl
theorem bI_d0 {P : Prop} [Decidable P] (h : ¬ P) : 0 = bI (decide P) := by rw [decide_eq_false h]; rfl
theorem bI_d1 {P : Prop} [Decidable P] (h : P) : 1 = bI (decide P) := by rw [decide_eq_true h]; rfl
