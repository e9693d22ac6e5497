/-! ===== the reference: its changes ===== -/
def gR {α : Type} (W : Int32 × Int32) (x y : α) : α := if W.1 = 0 then x else y
/-- what hinders, kept -/
def hnd (W : Int32 × Int32) (F : pS) : pS := if W.1 = 0 then F else upd (upd F 16 W.1) 17 W.2
theorem gR_0 {α : Type} {W : Int32 × Int32} {x y : α} (h : W.1 = 0) : gR W x y = x := if_pos h
theorem gR_1 {α : Type} {W : Int32 × Int32} {x y : α} (h : ¬ W.1 = 0) : gR W x y = y := if_neg h
theorem hnd_0 {W : Int32 × Int32} {F : pS} (h : W.1 = 0) : hnd W F = F := if_pos h
theorem hnd_z {W : Int32 × Int32} {F : pS} (hF : F 16 = 0) : hnd W F 16 = 0 ↔ W.1 = 0 := by
  unfold hnd
  split
  · next h => exact ⟨fun _ => h, fun _ => hF⟩
  · next h => exact ⟨fun q => q, fun q => q⟩
theorem hin_hnd {b : Bool} {x y : Int32} {F : pS} (hF : F 16 = 0) (hx : ¬ x = 0) : hin b x y F = hnd (if b = true then (x, y) else (0, 0)) F := by
  unfold hin hnd
  cases b
  · rw [if_neg (fun q => absurd q.1 (by decide))]; rfl
  · rw [if_pos ⟨rfl, hF⟩, if_pos rfl, if_neg hx]
theorem hin_hnd2 {b : Bool} {x y : Int32} {W : Int32 × Int32} {F : pS} (hF : F 16 = 0) (hx : ¬ x = 0) : hin b x y (hnd W F) = hnd (if W.1 = 0 then (if b = true then (x, y) else (0, 0)) else W) F := by
  by_cases h : W.1 = 0
  · rw [hnd_0 h, if_pos h, hin_hnd hF hx]
  · rw [if_neg h]
    exact (hin_1 (fun q => h ((hnd_z hF).mp q))).symm
theorem nb_0 {b : Bool} (h : b = true) : 0 = bI (!b) := by rw [h]; rfl
theorem nb_1 {b : Bool} (h : b = false) : 1 = bI (!b) := by rw [h]; rfl
theorem hin_z {b : Bool} {x y : Int32} {F : pS} (hF : F 16 = 0) (hx : ¬ x = 0) : hin b x y F 16 = 0 ↔ b = false := by
  rw [hin_hnd hF hx, hnd_z hF]
  cases b
  · exact ⟨fun _ => rfl, fun _ => rfl⟩
  · exact ⟨fun q => absurd q hx, fun q => absurd q (by decide)⟩
theorem en_S {W : Int32 × Int32} {F S T : pS} (hF : F 16 = 0) : enS (hnd W F) S T = gR W S T := by
  unfold enS gR
  by_cases h : W.1 = 0
  · rw [if_pos ((hnd_z hF).mpr h), if_pos h]
  · rw [if_neg (fun q => h ((hnd_z hF).mp q)), if_neg h]
theorem en_H {W : Int32 × Int32} {F T : pS} {HA : Nat → Int32} {z : Nat} (hF : F 16 = 0) : enH (hnd W F) HA T z = gR W (hKp HA T z) HA := by
  unfold enH gR
  by_cases h : W.1 = 0
  · rw [if_pos ((hnd_z hF).mpr h), if_pos h]
  · rw [if_neg (fun q => h ((hnd_z hF).mp q)), if_neg h]
theorem en_V {W : Int32 × Int32} {F : pS} {v : Int32} (hF : F 16 = 0) : enV (hnd W F) v = gR W v 0 := by
  unfold enV gR
  by_cases h : W.1 = 0
  · rw [if_pos ((hnd_z hF).mpr h), if_pos h]
  · rw [if_neg (fun q => h ((hnd_z hF).mp q)), if_neg h]
theorem gR_gR {α : Type} {W : Int32 × Int32} {x y z : α} : gR W (gR W x y) z = gR W x z := by
  unfold gR
  by_cases h : W.1 = 0
  · rw [if_pos h, if_pos h, if_pos h]
  · rw [if_neg h, if_neg h]
theorem u16 {F : pS} : upd F 16 0 16 = 0 := rfl
/-! joining -/
theorem jo_1 {F S : pS} {n q : Nat} {h : Int32} (hI : pSh S n q) (hF : F 16 = 0) (c : ¬ hin (!pHas h n) 3 h F 16 = 0) : hin (!pHas h n) 3 h F = hnd (wJoin S h) F ∧ ¬ (wJoin S h).1 = 0 := by
  have hb : pHas h n = false := by
    cases e : pHas h n
    · rfl
    · exact absurd ((hin_z hF (by decide)).mpr (by rw [e]; rfl)) c
  rw [wJoin_e hI, if_neg (by rw [hb]; decide), hin_hnd hF (by decide), hb]
  exact ⟨rfl, show ¬ (3 : Int32) = 0 from by decide⟩
theorem jo_W {F S : pS} {n q i : Nat} (hI : pSh S n q) (hi : i < n) (hF : F 16 = 0) : hin (decide (pLeft S i = 0)) 6 (S (1 + 6 * i + 3)) (hin (decide (¬ pPl S (nI i) q = -1)) 4 (pPl S (nI i) q) (hin (!pHas (nI i) n) 3 (nI i) F)) = hnd (wJoin S (nI i)) F := by
  have hn := hI.2.1
  rw [hin_hnd hF (by decide), hin_hnd2 hF (by decide), hin_hnd2 hF (by decide), wJoin_e hI, pHas_n hi (by omega), if_pos rfl, cN_nI (by omega)]
  congr 1
  by_cases c1 : pPl S (nI i) q = -1
  · by_cases c2 : pLeft S i = 0
    · simp [c1, c2]
    · simp [c1, c2]
  · simp [c1]
theorem jo_no {S : pS} {n q i : Nat} (hI : pSh S n q) (hi : i < n) (hW : (wJoin S (nI i)).1 = 0) : ∀ j, j < q → S (50 + j) ≠ nI i := by
  intro j hj e
  rw [wJoin_e hI, pHas_n hi (by have := hI.2.1; omega), if_pos rfl, pPl_found e hI.2.2.2.2.2.1 hj] at hW
  rw [if_neg (fun q => by
    have hq := hI.2.2.2.1
    rcases (show j = 0 ∨ j = 1 ∨ j = 2 ∨ j = 3 ∨ j = 4 ∨ j = 5 ∨ j = 6 ∨ j = 7 by omega) with rfl | rfl | rfl | rfl | rfl | rfl | rfl | rfl <;> exact absurd q (by decide))] at hW
  exact absurd (show (4 : Int32) = 0 from hW) (by decide)
theorem nI_le0 {k : Nat} (h : nI k ≤ 0) (hk : k ≤ 8) : k = 0 := by
  rcases (show k = 0 ∨ k = 1 ∨ k = 2 ∨ k = 3 ∨ k = 4 ∨ k = 5 ∨ k = 6 ∨ k = 7 ∨ k = 8 by omega) with rfl | rfl | rfl | rfl | rfl | rfl | rfl | rfl | rfl <;> first | rfl | exact absurd h (by decide)
theorem nI_gt0 {k : Nat} (h : ¬ nI k ≤ 0) : 0 < k := by
  rcases Nat.eq_zero_or_pos k with e | e
  · rw [e] at h; exact absurd (by decide) h
  · exact e
theorem lose_i {S : pS} {n z i : Nat} (h : pWin S n z i = i) (hz : z ≠ i) : pLose S n z i = z := by
  rw [pLose, if_neg (fun q => hz (q.symm.trans h))]
theorem win_z {S : pS} {n z i : Nat} (h : ¬ pWin S n z i = i) : pWin S n z i = z := by
  unfold pWin at h ⊢
  split
  · next c => rw [if_pos c] at h; exact absurd rfl h
  · rfl
theorem lose_z {S : pS} {n z i : Nat} (h : pWin S n z i = z) : pLose S n z i = i := by
  rw [pLose, if_pos h]
theorem go_ref {S : pS} {Q : Nat} (h : 0 < Q) : upd S 49 (nI (Q - 1)) = sGo S Q (Q - 1) := by
  obtain ⟨k, rfl⟩ : ∃ k, Q = k + 1 := ⟨Q - 1, by omega⟩
  exact sGo_last.symm
/-- the number of minutes -/
def nOK (S : pS) : Prop := S 122 = nI (cN (S 122)) ∧ cN (S 122) ≤ 20
theorem nOK_ext {S T : pS} (h : nOK S) (e : T 122 = S 122) : nOK T := by
  unfold nOK
  rw [e]; exact h
theorem nOK_of {S : pS} {t : Nat} (e : S 122 = nI t) (h : t ≤ 20) : nOK S := by
  unfold nOK
  rw [e, cN_nI (by omega)]
  exact ⟨rfl, h⟩
theorem nOK_note {S : pS} (h : nOK S) (k a b : Int32) : nOK (sNote S k a b) := by
  unfold sNote
  split
  · exact nOK_of (t := 20) (upds rfl) (by omega)
  · next c => exact nOK_of (t := cN (S 122) + 1) (upds rfl) (by have := h.2; omega)
theorem nOK_qu {S M : pS} {w l : Nat} (h : nOK S) (hw : w < 8) (hl : l < 8) : nOK (oQuarrel (S, M) w l).1 :=
  nOK_note (nOK_ext h (sSq_off hw hl (by omega))) _ _ _
theorem hnd_6 {W : Int32 × Int32} {F : pS} : hnd W F 6 = F 6 := by
  unfold hnd
  split <;> rfl
/-! leaving -/
theorem le_1 {F S : pS} {n q : Nat} {h : Int32} (hI : pSh S n q) (hF : F 16 = 0) (c : ¬ hin (!pHas h n) 3 h F 16 = 0) : hin true 5 0 (hin (!pHas h n) 3 h F) = hnd (wLeave S h) F ∧ ¬ (wLeave S h).1 = 0 := by
  rw [← hin_1 c]
  have hb : pHas h n = false := by
    cases e : pHas h n
    · rfl
    · exact absurd ((hin_z hF (by decide)).mpr (by rw [e]; rfl)) c
  rw [wLeave_e hI, if_neg (by rw [hb]; decide), hin_hnd hF (by decide), hb]
  exact ⟨rfl, show ¬ (3 : Int32) = 0 from by decide⟩
theorem le_W {F S : pS} {n q i : Nat} (hI : pSh S n q) (hi : i < n) (hF : F 16 = 0) : hin (decide (pPl S (nI i) q = -1)) 5 0 (hin (!pHas (nI i) n) 3 (nI i) F) = hnd (wLeave S (nI i)) F := by
  have hn := hI.2.1
  rw [hin_hnd hF (by decide), hin_hnd2 hF (by decide), wLeave_e hI, pHas_n hi (by omega), if_pos rfl]
  congr 1
  by_cases c1 : pPl S (nI i) q = -1
  · simp [c1]
  · simp [c1]
theorem le_n {S : pS} {n q i : Nat} (hI : pSh S n q) (hi : i < n) (hW : ¬ (wLeave S (nI i)).1 = 0) : pPl S (nI i) q = -1 := by
  rw [wLeave_e hI, pHas_n hi (by have := hI.2.1; omega), if_pos rfl] at hW
  by_cases c1 : pPl S (nI i) q = -1
  · exact c1
  · rw [if_neg c1] at hW; exact absurd rfl hW
theorem pPl_cases (S : pS) (h : Int32) : ∀ q : Nat, pPl S h q = -1 ∨ ∃ u, u < q ∧ pPl S h q = nI u ∧ S (50 + u) = h
  | 0 => Or.inl rfl
  | q + 1 => by
    rw [pPl]
    split
    · next c => exact Or.inr ⟨q, by omega, rfl, c⟩
    · rcases pPl_cases S h q with e | ⟨u, hu, e, e2⟩
      · exact Or.inl e
      · exact Or.inr ⟨u, by omega, e, e2⟩
theorem le_p {S : pS} {n q i : Nat} (hI : pSh S n q) (hi : i < n) (hW : (wLeave S (nI i)).1 = 0) : ∃ u, u < q ∧ pPl S (nI i) q = nI u := by
  rcases pPl_cases S (nI i) q with e | ⟨u, hu, e, -⟩
  · rw [wLeave_e hI, pHas_n hi (by have := hI.2.1; omega), if_pos rfl, if_pos e] at hW
    exact absurd (show (5 : Int32) = 0 from hW) (by decide)
  · exact ⟨u, hu, e⟩
/-! drawing -/
def PL (S : pS) (q : Nat) : Prop := ∀ j, j < q → 1 ≤ pLeft S (cN (S (50 + j)))
theorem al_1 {x : Int32} (h : 1 ≤ x) : jmax 1 x = x := by
  unfold jmax
  split
  · rfl
  · next c => exact Int32.le_antisymm h (Int32.not_lt.mp c)
theorem dr_in {F : pS} {b1 b2 : Bool} {y : Int32} (hF : F 16 = 0) (c : hin b2 7 y (hin (!b1) 1 0 F) 16 = 0) : b1 = true := by
  rw [hin_hnd hF (by decide), hin_hnd2 hF (by decide), hnd_z hF] at c
  cases b1
  · exact absurd (show (1 : Int32) = 0 from c) (by decide)
  · rfl
theorem dr_1 {F S : pS} {n q : Nat} {v : Int32} (hI : pSh S n q) (hF : F 16 = 0) (c : ¬ hin (decide (pAll S q < v)) 7 (pAll S q) (hin (!pIn v 1 50) 1 0 F) 16 = 0) : hin (decide (pAll S q < v)) 7 (pAll S q) (hin (!pIn v 1 50) 1 0 F) = hnd (wDraw S v) F ∧ ¬ (wDraw S v).1 = 0 := by
  rw [hin_hnd hF (by decide), hin_hnd2 hF (by decide), hnd_z hF] at c
  rw [hin_hnd hF (by decide), hin_hnd2 hF (by decide), wDraw_e hI]
  cases e : pIn v 1 50
  · exact ⟨rfl, show ¬ (1 : Int32) = 0 from by decide⟩
  · rw [e] at c
    by_cases c2 : pAll S q < v
    · rw [if_pos c2, decide_eq_true c2]; exact ⟨rfl, show ¬ (7 : Int32) = 0 from by decide⟩
    · rw [decide_eq_false c2] at c; exact absurd rfl c
theorem dr_W {F S : pS} {n q j : Nat} (hI : pSh S n q) (hj : j ≤ 50) (hh : pIn (nI j) 1 50 = true) (hF : F 16 = 0) : hin (decide (S 204 < pBrings S j)) 8 (S 204) (hin (decide (pAll S q < nI j)) 7 (pAll S q) (hin (!pIn (nI j) 1 50) 1 0 F)) = hnd (wDraw S (nI j)) F := by
  rw [hin_hnd hF (by decide), hin_hnd2 hF (by decide), hin_hnd2 hF (by decide), wDraw_e hI, hh, if_pos rfl, cN_nI (by omega)]
  congr 1
  by_cases c1 : pAll S q < nI j
  · simp [c1]
  · by_cases c2 : S 204 < pBrings S j
    · simp [c1, c2]
    · simp [c1, c2]
theorem dA_ref {S M : pS} {q z : Nat} (ez : S 50 = nI z) (hz : z < 8) : sNote (sFetch (sPump (sGo S q 0)) z (pBring (S 205))) 0 (nI z) (pBring (S 205)) = (oDrawA (S, M) q).1 := by
  show _ = sNote (sFetch (sPump (sGo S q 0)) (cN (S 50)) (pBring (S 205))) 0 (nI (cN (S 50))) (pBring (S 205))
  rw [ez, cN_nI (by omega)]
theorem pBring_mk (w : Int32) : 10 - jmin 50 w / 10 = pBring w := rfl
/-! voting -/
theorem vo_W {F S : pS} (hF : F 16 = 0) : hin (decide (S 0 = 0)) 3 0 F = hnd (wVote S) F := by
  rw [hin_hnd hF (by decide)]
  unfold wVote
  by_cases c : S 0 = 0
  · simp [c]
  · simp [c]
theorem vote_ref {S M T : pS} {n q : Nat} (hI : pSh S n q) (hT : sSweep q (sNote (upd S 203 (nI (pMost S n 3))) 2 (nI (pMost S n 3)) 0) = T) : (oVote (S, M)).2.1 = T := by
  have e0 : cN (S 0) = n := by rw [hI.1, cN_nI (by have := hI.2.1; omega)]
  have e1 : cN (S 49) = q := by rw [hI.2.2.1, cN_nI (by have := hI.2.2.2.1; omega)]
  show sSweep (cN (S 49)) (sNote (upd S 203 (nI (pMost S (cN (S 0)) 3))) 2 (nI (pMost S (cN (S 0)) 3)) 0) = _
  rw [e0, e1, hT]
theorem vote_v {S M : pS} {n q : Nat} (hI : pSh S n q) : (oVote (S, M)).1 = nI (pMost S n 3) := by
  show nI (pMost S (cN (S 0)) 3) = _
  rw [hI.1, cN_nI (by have := hI.2.1; omega)]
/-! rain, nights, leather, coins, households -/
theorem ra_W {F : pS} {v : Int32} (hF : F 16 = 0) : hin (!pIn v 0 9) 1 0 F = hnd (wRain v) F := by
  rw [hin_hnd hF (by decide)]
  unfold wRain
  cases pIn v 0 9 <;> rfl
theorem ni_W {F : pS} {v : Int32} (hF : F 16 = 0) : hin (!pIn v 1 50) 1 0 F = hnd (wNight v) F := by
  rw [hin_hnd hF (by decide)]
  unfold wNight
  cases pIn v 1 50 <;> rfl
theorem ni_in {v : Int32} (h : (wNight v).1 = 0) : pIn v 1 50 = true := by
  unfold wNight at h
  cases e : pIn v 1 50
  · rw [e] at h; exact absurd (show (1 : Int32) = 0 from h) (by decide)
  · rfl
theorem re_W {F S : pS} (hF : F 16 = 0) : hin (decide (S 209 < 20)) 9 (20 - S 209) F = hnd (wLeather S) F := by
  rw [hin_hnd hF (by decide)]
  unfold wLeather
  by_cases c : S 209 < 20
  · simp [c]
  · simp [c]
theorem re_ref {S M : pS} : sNote (upd (upd S 209 (S 209 - 20)) 205 0) 3 0 0 = (oRenew (S, M)).2.1 := rfl
theorem co_W {F S : pS} {v : Int32} (hF : F 16 = 0) : hin (decide (hin (!pIn v 1 100) 1 0 F 16 = 0) && decide (500 < S 209 + v)) 2 500 (hin (!pIn v 1 100) 1 0 F) = hnd (wCoins S v) F := by
  rw [hin_hnd hF (by decide), hin_hnd2 hF (by decide)]
  unfold wCoins
  cases e : pIn v 1 100
  · rfl
  · by_cases c : 500 < S 209 + v
    · simp [c, hnd, hF]
    · simp [c]
theorem ho_W {F S : pS} {n : Nat} {x y t : Int32} (h0 : S 0 = nI n) (hn : n ≤ 8) (hF : F 16 = 0) : hin (decide (n = 8)) 2 8 (hin (!(pIn x 1 9 && pIn y 0 19 && pIn t 0 9)) 1 0 F) = hnd (wHouse S x y t) F := by
  have e8 : (S 0 = 8) = (n = 8) := by
    rw [h0]
    exact propext (nI_eq (a := n) (b := 8) (by omega) (by omega))
  rw [hin_hnd hF (by decide), hin_hnd2 hF (by decide)]
  unfold wHouse
  simp only [e8]
  cases e : (pIn x 1 9 && pIn y 0 19 && pIn t 0 9)
  · rfl
  · by_cases c : n = 8
    · simp [c]
    · simp [c]
theorem ho_n {S : pS} {n : Nat} {x y t : Int32} (h0 : S 0 = nI n) (hn : n ≤ 8) (hW : (wHouse S x y t).1 = 0) : n < 8 := by
  rcases Nat.lt_or_ge n 8 with h | h
  · exact h
  · have : n = 8 := by omega
    subst this
    unfold wHouse at hW
    rw [h0] at hW
    cases e : (pIn x 1 9 && pIn y 0 19 && pIn t 0 9)
    · rw [e] at hW; exact absurd (show (1 : Int32) = 0 from hW) (by decide)
    · rw [e, if_pos rfl, if_pos (by decide)] at hW; exact absurd (show (2 : Int32) = 0 from hW) (by decide)
theorem clr_0 {S : pS} {n : Nat} : upd S 49 0 = sClear 0 (upd S 49 0) := (sClear_0 _).symm
theorem night1_0 {S : pS} {n : Nat} (h0 : S 0 = nI n) (hn : n ≤ 8) : sNight1 n S 0 = nI n := by
  unfold sNight1
  rw [sRain_off (by omega), sClear_off hn (by omega), updn (by omega)]
  exact h0
theorem nightN_0 {S : pS} {n k : Nat} (h0 : S 0 = nI n) (hn : n ≤ 8) : sNightN n k S 0 = nI n := by
  induction k with
  | zero => exact h0
  | succ k ih => exact night1_0 ih hn
