/-! ===== the reference: its object and its rows ===== -/
def moB (r : Nat → Nat) (F : Nat → Int32) : va_W := [(r 0, .inr (13, [.ref (r 1), .ref (r 2), .ref (r 3), .ref (r 4), .ref (r 5), .int (F 5), .int (F 6), .int (F 7), .int (F 8), .int (F 9), .int (F 10), .ref (r 6), .int (F 12), .int (F 13), .ref (r 7), .int (F 15), .int (F 16), .int (F 17), .int (F 18), .int (F 19), .int (F 20), .int (F 21), .ref (r 8), .ref (r 9)]))]
def arB (ty : Nat → ClassId) (a n : Nat) (f : Nat → Int32) : va_W := [(a, .inl (ty 0, n, .inl f))]
theorem arB_st {ty : Nat → ClassId} {a n : Nat} {S : pS} {h : Nat} {v : Int32} (hh : h < n) : (arB ty a n (sqA n S)).set 0 (a, .inl (ty 0, n, .inl (upd (sqA n S) h v))) = arB ty a n (sqA n (upd S h v)) := by
  rw [sqA_up hh]; rfl
/-- 215 numbers copied -/
def cp3 (f : Nat → Int32) (u : Nat) (g : Nat → Int32) (v k : Nat) : Nat → Int32 := fun i => if v ≤ i ∧ i < v + k then f (u + (i - v)) else g i
theorem cp3_0 {f g : Nat → Int32} {u v : Nat} : cp3 f u g v 0 = g := by
  funext i
  unfold cp3
  rw [if_neg (by omega)]
theorem cp3_s {f g : Nat → Int32} {u v k : Nat} : upd (cp3 f u g v k) (v + k) (f (u + k)) = cp3 f u g v (k + 1) := by
  funext i
  unfold cp3 upd
  dsimp only
  by_cases e : i = v + k
  · subst e
    rw [if_pos rfl, if_pos (by omega), Nat.add_sub_cancel_left]
  · rw [if_neg e]
    by_cases c : v ≤ i ∧ i < v + k
    · rw [if_pos c, if_pos (by omega)]
    · rw [if_neg c, if_neg (by omega)]
/-- the history's row -/
def hPut (HA : Nat → Int32) (k : Nat) (S : pS) : Nat → Int32 := fun i => if k * 215 ≤ i ∧ i < k * 215 + 215 then S (i - k * 215) else HA i
def hAt (HA : Nat → Int32) (k : Nat) : pS := fun i => HA (k * 215 + i)
def shH (HA : Nat → Int32) (k : Nat) : Nat → Int32 := fun i => if i < k then HA (i + 215) else HA i
def hKp (HA : Nat → Int32) (S : pS) (z : Nat) : Nat → Int32 := if z = 8 then hPut (shH HA 1505) 7 S else hPut HA z S
def hKn (z : Nat) : Nat := if z = 8 then 8 else z + 1
theorem cp3_ss {S T : pS} : cp3 (sqA 215 S) 0 (sqA 215 T) 0 215 = sqA 215 S := by
  funext i
  unfold cp3 sqA
  by_cases c : i < 215
  · rw [if_pos (by omega), Nat.zero_add, Nat.sub_zero]
  · rw [if_neg (by omega), if_neg c, if_neg c]
theorem cp3_sh {S : pS} {HA : Nat → Int32} {k : Nat} : cp3 (sqA 215 S) 0 HA (k * 215) 215 = hPut HA k S := by
  funext i
  unfold cp3 hPut sqA
  by_cases c : k * 215 ≤ i ∧ i < k * 215 + 215
  · rw [if_pos c, if_pos c, if_pos (by omega), Nat.zero_add]
  · rw [if_neg c, if_neg c]
theorem cp3_hs {S : pS} {HA : Nat → Int32} {k : Nat} : cp3 HA (k * 215) (sqA 215 S) 0 215 = sqA 215 (hAt HA k) := by
  funext i
  unfold cp3 hAt sqA
  by_cases c : i < 215
  · rw [if_pos (by omega), if_pos c, Nat.sub_zero]
  · rw [if_neg (by omega), if_neg c, if_neg c]
theorem shH_0 {HA : Nat → Int32} : shH HA 0 = HA := by
  funext i
  unfold shH
  rw [if_neg (by omega)]
theorem shH_s {HA : Nat → Int32} {k : Nat} : upd (shH HA k) k (shH HA k (k + 215)) = shH HA (k + 1) := by
  funext i
  unfold shH upd
  dsimp only
  by_cases e : i = k
  · subst e
    rw [if_pos rfl, if_neg (by omega), if_pos (by omega)]
  · rw [if_neg e]
    by_cases c : i < k
    · rw [if_pos c, if_pos (by omega)]
    · rw [if_neg c, if_neg (by omega)]
theorem upd_upd {f : Nat → Int32} {k : Nat} {x y : Int32} : upd (upd f k x) k y = upd f k y := by
  funext i
  unfold upd
  by_cases e : i = k
  · rw [if_pos e, if_pos e]
  · rw [if_neg e, if_neg e, if_neg e]
/-- a hindrance: the first reason stays -/
def hin (b : Bool) (x y : Int32) (F : pS) : pS := if b = true ∧ F 16 = 0 then upd (upd F 16 x) 17 y else F
theorem hin_0 {b : Bool} {x y : Int32} {F : pS} (h : b = false) : F = hin b x y F := by
  unfold hin
  rw [if_neg (fun q => by rw [h] at q; exact absurd q.1 (by decide))]
theorem hin_1 {b : Bool} {x y : Int32} {F : pS} (h : ¬ F 16 = 0) : F = hin b x y F := by
  unfold hin
  rw [if_neg (fun q => h q.2)]
theorem hin_2 {b : Bool} {x y : Int32} {F : pS} (h : b = true) (h2 : F 16 = 0) : upd (upd F 16 x) 17 y = hin b x y F := by
  unfold hin
  rw [if_pos ⟨h, h2⟩]
/-- the end of a change: what is kept of a refusal, what is remembered -/
def enF (F : pS) (ex cmd : Int32) (z : Nat) : pS := if F 16 = 0 then upd (upd F 7 0) 6 (nI (hKn z)) else upd (upd (upd (upd F 7 ex) 8 (F 16)) 9 (F 17)) 10 cmd
def enS (F S T : pS) : pS := if F 16 = 0 then S else T
def enH (F : pS) (HA : Nat → Int32) (T : pS) (z : Nat) : Nat → Int32 := if F 16 = 0 then hKp HA T z else HA
def enV (F : pS) (v : Int32) : Int32 := if F 16 = 0 then v else 0
theorem rm_8 {F : pS} {z : Nat} (h : z = 8) : upd F 6 (nI (z - 1 + 1)) = upd F 6 (nI (hKn z)) := by
  rw [hKn, if_pos h, h]
theorem rm_n {F : pS} {z : Nat} (h : ¬ z = 8) : upd F 6 (nI (z + 1)) = upd F 6 (nI (hKn z)) := by
  rw [hKn, if_neg h]
theorem rh_8 {HA : Nat → Int32} {T : pS} {z : Nat} (h : z = 8) : hPut (shH HA 1505) (z - 1) T = hKp HA T z := by
  rw [hKp, if_pos h, h]
theorem rh_n {HA : Nat → Int32} {T : pS} {z : Nat} (h : ¬ z = 8) : hPut HA z T = hKp HA T z := by
  rw [hKp, if_neg h]
theorem pIn_has {h : Int32} {n : Nat} (hn : n ≤ 8) : pIn h 0 (nI n - 1) = pHas h n := by
  have a : (nI n - 1).toInt = (n : Int) - 1 ∧ (nI n).toInt = (n : Int) := by
    rcases (show n = 0 ∨ n = 1 ∨ n = 2 ∨ n = 3 ∨ n = 4 ∨ n = 5 ∨ n = 6 ∨ n = 7 ∨ n = 8 by omega) with rfl | rfl | rfl | rfl | rfl | rfl | rfl | rfl | rfl <;> decide
  have e : (h ≤ nI n - 1) = (h < nI n) := by
    apply propext
    rw [Int32.le_iff_toInt_le, Int32.lt_iff_toInt_lt, a.1, a.2]
    omega
  unfold pIn pHas
  simp only [e]
/-- the queue's move, so far -/
def shf (S : pS) (u k : Nat) : pS := fun i => if 50 + u ≤ i ∧ i < 50 + k then S (i + 1) else S i
theorem shf_0 {S : pS} {u : Nat} : shf S u u = S := by
  funext i
  unfold shf
  rw [if_neg (by omega)]
theorem shf_s {S : pS} {u k : Nat} (h : u ≤ k) : upd (shf S u k) (50 + k) (shf S u k (50 + k + 1)) = shf S u (k + 1) := by
  funext i
  unfold shf upd
  dsimp only
  by_cases e : i = 50 + k
  · subst e
    rw [if_pos rfl, if_neg (by omega), if_pos (by omega)]
  · rw [if_neg e]
    by_cases c : 50 + u ≤ i ∧ i < 50 + k
    · rw [if_pos c, if_pos (by omega)]
    · rw [if_neg c, if_neg (by omega)]
theorem shf_off {S : pS} {u k : Nat} {i : Nat} (h : i < 50) : shf S u k i = S i := by
  unfold shf
  rw [if_neg (by omega)]
theorem shf_go {S : pS} {u q : Nat} (h : 0 < q) : upd (shf S u (q - 1)) 49 (nI (q - 1)) = sGo S q u := by
  unfold shf sGo
  congr 1
  funext i
  by_cases c : 50 + u ≤ i ∧ i < 50 + (q - 1)
  · rw [if_pos c, if_pos (by omega)]
  · rw [if_neg c, if_neg (by omega)]
/-- the minutes' move, so far -/
def shN (S : pS) (k : Nat) : pS := fun i => if 123 ≤ i ∧ i < 123 + k then S (i + 4) else S i
theorem shN_0 {S : pS} : shN S 0 = S := by
  funext i
  unfold shN
  rw [if_neg (by omega)]
theorem shN_s {S : pS} {k : Nat} : upd (shN S k) (123 + k) (shN S k (123 + k + 4)) = shN S (k + 1) := by
  funext i
  unfold shN upd
  dsimp only
  by_cases e : i = 123 + k
  · subst e
    rw [if_pos rfl, if_neg (by omega), if_pos (by omega)]
  · rw [if_neg e]
    by_cases c : 123 ≤ i ∧ i < 123 + k
    · rw [if_pos c, if_pos (by omega)]
    · rw [if_neg c, if_neg (by omega)]
theorem shN_off {S : pS} {k i : Nat} (h : i < 123 ∨ 123 + k ≤ i) : shN S k i = S i := by
  unfold shN
  rw [if_neg (by omega)]
theorem shN_76 {S : pS} : shN S 76 = sShift S := rfl
theorem note_n {S : pS} {c : Nat} {k o t : Int32} (h : S 122 = nI c) (hc : c ≤ 20) (h2 : ¬ c = 20) : sPut S c k (S 206) o t = sNote S k o t := by
  unfold sNote
  rw [h, cN_nI (by omega), if_neg h2]
theorem note_20 {S : pS} {c : Nat} {k o t : Int32} (h : S 122 = nI c) (h2 : c = 20) : sPut (upd (shN S 76) 122 (nI (c - 1))) (c - 1) k (S 206) o t = sNote S k o t := by
  subst h2
  unfold sNote
  rw [h, cN_nI (by omega), if_pos rfl]
  unfold sPut
  have e : ∀ (f : pS) (i j : Nat) (x y : Int32), i ≠ j → upd (upd f i x) j y = upd (upd f j y) i x := fun f i j x y hij => by
    funext k
    unfold upd
    by_cases e1 : k = j
    · by_cases e2 : k = i
      · exact absurd (e2.symm.trans e1) hij
      · rw [if_pos e1, if_neg e2, if_pos e1]
    · by_cases e2 : k = i
      · rw [if_neg e1, if_pos e2, if_pos e2]
      · rw [if_neg e1, if_neg e2, if_neg e2, if_neg e1]
  rw [e _ 122 _ _ _ (by omega), e _ 122 _ _ _ (by omega), e _ 122 _ _ _ (by omega), e _ 122 _ _ _ (by omega), upd_upd]
  rfl
theorem near_0 {S : pS} {a b : Nat} (h : a = b) : 0 = bI (pNear S a b) := by
  unfold pNear
  rw [decide_eq_false (fun q => q h)]; rfl
theorem near_1 {S : pS} {a b : Nat} (h2 : ¬ pFar S a b ≤ 2) : 0 = bI (pNear S a b) := by
  unfold pNear
  rw [decide_eq_false h2, Bool.and_false]; rfl
theorem near_2 {S : pS} {a b : Nat} (h : ¬ a = b) (h2 : pFar S a b ≤ 2) : 1 = bI (pNear S a b) := by
  unfold pNear
  rw [decide_eq_true h, decide_eq_true h2]; rfl
theorem doq_0 {S : pS} {a b : Nat} (h : pNear S a b = false) : 0 = bI (pDoQ S a b) := by
  unfold pDoQ
  rw [h]; rfl
theorem doq_1 {S : pS} {a b : Nat} (h2 : ¬ 10 ≤ S (1 + 6 * a + 2) + S (1 + 6 * b + 2)) : 0 = bI (pDoQ S a b) := by
  unfold pDoQ
  rw [decide_eq_false h2, Bool.and_false]; rfl
theorem doq_2 {S : pS} {a b : Nat} (h : pNear S a b = true) (h2 : 10 ≤ S (1 + 6 * a + 2) + S (1 + 6 * b + 2)) : 1 = bI (pDoQ S a b) := by
  unfold pDoQ
  rw [h, decide_eq_true h2]; rfl
def pLose (S : pS) (n a j : Nat) : Nat := if pWin S n a j = a then j else a
theorem pw_skip {S : pS} {a j k : Nat} (c : k = a ∨ k = j) : zI (pVotes S a j k) = zI (pVotes S a j (k + 1)) := by
  rw [pVotes, if_pos c]
  simp
theorem pw_gt {S : pS} {a j k : Nat} (c1 : ¬ k = a) (c2 : ¬ k = j) (c3 : ¬ pFar S k a ≤ pFar S k j) : zI (pVotes S a j k) + 1 = zI (pVotes S a j (k + 1)) := by
  rw [pVotes, if_neg (by omega), if_pos (Int32.not_le.mp c3), show (1 : Int32) = zI 1 from by decide, zI_add]
theorem pw_le {S : pS} {a j k : Nat} (c1 : ¬ k = a) (c2 : ¬ k = j) (c3 : pFar S k a ≤ pFar S k j) : zI (pVotes S a j k) + (-1) = zI (pVotes S a j (k + 1)) := by
  rw [pVotes, if_neg (by omega), if_neg (Int32.not_lt.mpr c3), show (-1 : Int32) = zI (-1) from by decide, zI_add]
theorem pw_t {S : pS} {a j n : Nat} (hn : n ≤ 8) (h : ¬ zI (pVotes S a j n) ≤ 0) : nI j = nI (pWin S n a j) := by
  have b := pVotes_b S a j n
  rw [pWin, if_pos ((zpos (by omega) (by omega)).mp (Int32.not_le.mp h))]
theorem pw_f {S : pS} {a j n : Nat} (hn : n ≤ 8) (h : zI (pVotes S a j n) ≤ 0) : nI a = nI (pWin S n a j) := by
  have b := pVotes_b S a j n
  rw [pWin, if_neg (mt (zpos (by omega) (by omega)).mpr (Int32.not_lt.mpr h))]
theorem pLose_lt {S : pS} {n a j : Nat} (ha : a < 8) (hj : j < 8) : pLose S n a j < 8 := by
  unfold pLose
  split
  · exact hj
  · exact ha
theorem qr_ref {S M : pS} {n i j : Nat} {x : Nat} (hx : pLose S n i j = x) (hx8 : x < 8) (hw : pWin S n i j < 8) : sNote (sSq S (pWin S n i j) x) 1 (nI (pWin S n i j)) (nI x) = (oQuarrel (S, M) (pWin S n i j) (pLose S n i j)).1 := by
  rw [hx]; rfl
theorem ii_0 {v x y : Int32} (h : v < x) : 0 = bI (pIn v x y) := by
  unfold pIn
  rw [decide_eq_false (Int32.not_le.mpr h), Bool.false_and]; rfl
theorem ii_1 {v x y : Int32} (h : y < v) : 0 = bI (pIn v x y) := by
  unfold pIn
  rw [decide_eq_false (Int32.not_le.mpr h), Bool.and_false]; rfl
theorem ii_2 {v x y : Int32} (h : ¬ v < x) (h2 : ¬ y < v) : 1 = bI (pIn v x y) := by
  unfold pIn
  rw [decide_eq_true (Int32.not_lt.mp h), decide_eq_true (Int32.not_lt.mp h2)]; rfl
