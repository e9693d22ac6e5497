/-! ===== the minutes: the row and the ring ===== -/
/-- place j of a ring of 20 whose next place is x, of c in it -/
def rix (x c j : Nat) : Nat := (x + 20 - c + j) % 20
def MR (X : pX) (c x : Nat) : Prop := c ≤ 20 ∧ x < 20 ∧ X.1 122 = nI c ∧ X.2 0 = nI c ∧ X.2 1 = nI x ∧ ∀ j, j < c → X.1 (123 + 4 * j) = X.2 (2 + rix x c j) ∧ X.1 (123 + 4 * j + 1) = X.2 (22 + rix x c j) ∧ X.1 (123 + 4 * j + 2) = X.2 (42 + rix x c j) ∧ X.1 (123 + 4 * j + 3) = X.2 (62 + rix x c j)
theorem rix_lt {x c j : Nat} : rix x c j < 20 := Nat.mod_lt _ (by omega)
/-- the minutes, the day -/
def MM (B : Nat) (X : pX) : Prop := (∃ c x, MR X c x ∧ ∀ j, j < c → mRow X.1 j) ∧ ∃ d, X.1 206 = nI d ∧ d ≤ B
theorem mRow_ext {S T : pS} {j : Nat} (e : ∀ k, k < 4 → T (123 + 4 * j + k) = S (123 + 4 * j + k)) (h : mRow S j) : mRow T j := by
  obtain ⟨kd, d, a, b, h0, h1, h2, h3, h4⟩ := h
  exact ⟨kd, d, a, b, (e 0 (by omega)).trans h0, (e 1 (by omega)).trans h1, (e 2 (by omega)).trans h2, (e 3 (by omega)).trans h3, h4⟩
theorem MM_ext {B : Nat} {S T M : pS} (h : MM B (S, M)) (e : ∀ i, ((122 ≤ i ∧ i < 203) ∨ i = 206) → T i = S i) : MM B (T, M) := by
  obtain ⟨⟨c, x, ⟨hc, hx, h1, h2, h3, h4⟩, hm⟩, ⟨d, hd, hB⟩⟩ := h
  refine ⟨⟨c, x, ⟨hc, hx, (e 122 (by omega)).trans h1, h2, h3, fun j hj => ?_⟩, fun j hj => mRow_ext (fun k hk => e _ (by omega)) (hm j hj)⟩, ⟨d, (e 206 (by omega)).trans hd, hB⟩⟩
  obtain ⟨a, b, f, g⟩ := h4 j hj
  exact ⟨(e _ (by omega)).trans a, (e _ (by omega)).trans b, (e _ (by omega)).trans f, (e _ (by omega)).trans g⟩
theorem jmin20_tab : ∀ c, c < 21 → jmin 20 (nI c + 1) = nI (min 20 (c + 1)) := by decide +kernel
theorem mNote_at {M : pS} {x k : Nat} {kd d a b : Int32} (h : M 1 = nI x) (hx : x < 20) (v : Nat) (hv : v < 4) (hk : k < 20) : mNote M kd d a b (2 + 20 * v + k) = if k = x then (if v = 0 then kd else if v = 1 then d else if v = 2 then a else b) else M (2 + 20 * v + k) := by
  rw [mNote_x h hx]
  rcases (show v = 0 ∨ v = 1 ∨ v = 2 ∨ v = 3 by omega) with rfl | rfl | rfl | rfl
  · by_cases c : k = x
    · rw [if_pos c, if_pos rfl, updn (by omega), updn (by omega), updn (by omega), updn (by omega), updn (by omega), upds (by omega)]
    · rw [if_neg c, updn (by omega), updn (by omega), updn (by omega), updn (by omega), updn (by omega), updn (by omega)]
  · by_cases c : k = x
    · rw [if_pos c, if_neg (by omega), if_pos rfl, updn (by omega), updn (by omega), updn (by omega), updn (by omega), upds (by omega)]
    · rw [if_neg c, updn (by omega), updn (by omega), updn (by omega), updn (by omega), updn (by omega), updn (by omega)]
  · by_cases c : k = x
    · rw [if_pos c, if_neg (by omega), if_neg (by omega), if_pos rfl, updn (by omega), updn (by omega), updn (by omega), upds (by omega)]
    · rw [if_neg c, updn (by omega), updn (by omega), updn (by omega), updn (by omega), updn (by omega), updn (by omega)]
  · by_cases c : k = x
    · rw [if_pos c, if_neg (by omega), if_neg (by omega), if_neg (by omega), updn (by omega), updn (by omega), upds (by omega)]
    · rw [if_neg c, updn (by omega), updn (by omega), updn (by omega), updn (by omega), updn (by omega), updn (by omega)]
theorem sPut_at {S : pS} {t j : Nat} {kd d a b : Int32} (v : Nat) (hv : v < 4) : sPut S t kd d a b (123 + 4 * j + v) = if j = t then (if v = 0 then kd else if v = 1 then d else if v = 2 then a else b) else S (123 + 4 * j + v) := by
  unfold sPut
  rcases (show v = 0 ∨ v = 1 ∨ v = 2 ∨ v = 3 by omega) with rfl | rfl | rfl | rfl
  · by_cases c : j = t
    · rw [if_pos c, if_pos rfl, updn (by omega), updn (by omega), updn (by omega), updn (by omega), upds (by omega)]
    · rw [if_neg c, updn (by omega), updn (by omega), updn (by omega), updn (by omega), updn (by omega)]
  · by_cases c : j = t
    · rw [if_pos c, if_neg (by omega), if_pos rfl, updn (by omega), updn (by omega), updn (by omega), upds (by omega)]
    · rw [if_neg c, updn (by omega), updn (by omega), updn (by omega), updn (by omega), updn (by omega)]
  · by_cases c : j = t
    · rw [if_pos c, if_neg (by omega), if_neg (by omega), if_pos rfl, updn (by omega), updn (by omega), upds (by omega)]
    · rw [if_neg c, updn (by omega), updn (by omega), updn (by omega), updn (by omega), updn (by omega)]
  · by_cases c : j = t
    · rw [if_pos c, if_neg (by omega), if_neg (by omega), if_neg (by omega), updn (by omega), upds (by omega)]
    · rw [if_neg c, updn (by omega), updn (by omega), updn (by omega), updn (by omega), updn (by omega)]
theorem sShift_at {S : pS} {j v : Nat} (hj : j < 19) (hv : v < 4) : sShift S (123 + 4 * j + v) = S (123 + 4 * (j + 1) + v) := by
  unfold sShift
  rw [if_pos (by omega)]
  congr 1
  omega
theorem MM_note {B : Nat} {S M : pS} {kd a b : Nat} (h : MM B (S, M)) (hB : B < 10 ^ 7) (k0 : kd ≤ 3) (ka : a < 100) (kb : b < 100) : MM B (oNote (S, M) (nI kd) (nI a) (nI b)) := by
  obtain ⟨⟨c, x, ⟨hc, hx, h1, h2, h3, h4⟩, hm⟩, ⟨d, hd, hdB⟩⟩ := h
  have h1 : S 122 = nI c := h1
  have h2 : M 0 = nI c := h2
  have h3 : M 1 = nI x := h3
  have hd : S 206 = nI d := hd
  have hcN : cN (S 122) = c := by rw [h1, cN_nI (by omega)]
  have m0 : mNote M (nI kd) (S 206) (nI a) (nI b) 0 = nI (min 20 (c + 1)) := by
    rw [mNote_x h3 hx, upds rfl, h2]
    exact jmin20_tab c (by omega)
  have m1 : mNote M (nI kd) (S 206) (nI a) (nI b) 1 = nI ((x + 1) % 20) := by
    rw [mNote_x h3 hx, updn (by omega), upds rfl]
  have d206 : sNote S (nI kd) (nI a) (nI b) 206 = nI d := by rw [sNote_off (by omega) (by omega)]; exact hd
  -- a row of the new minutes
  have row : ∀ (S' : pS) (j t : Nat), (∀ v, v < 4 → S' (123 + 4 * j + v) = if j = t then (if v = 0 then nI kd else if v = 1 then S 206 else if v = 2 then nI a else nI b) else S' (123 + 4 * j + v)) → j = t → mRow S' j := fun S' j t hS' hjt =>
    ⟨kd, d, a, b, by have := hS' 0 (by omega); rw [if_pos hjt, if_pos rfl] at this; exact this, by have := hS' 1 (by omega); rw [if_pos hjt, if_neg (by omega), if_pos rfl, hd] at this; exact this, by have := hS' 2 (by omega); rw [if_pos hjt, if_neg (by omega), if_neg (by omega), if_pos rfl] at this; exact this, by have := hS' 3 (by omega); rw [if_pos hjt, if_neg (by omega), if_neg (by omega), if_neg (by omega)] at this; exact this, k0, by omega, ka, kb⟩
  by_cases c20 : c = 20
  · subst c20
    have eS : (oNote (S, M) (nI kd) (nI a) (nI b)).1 = sPut (sShift S) 19 (nI kd) (S 206) (nI a) (nI b) := by
      show sNote S _ _ _ = _
      unfold sNote
      rw [if_pos hcN]
    have at_ : ∀ j v, j < 20 → v < 4 → (oNote (S, M) (nI kd) (nI a) (nI b)).1 (123 + 4 * j + v) = if j = 19 then (if v = 0 then nI kd else if v = 1 then S 206 else if v = 2 then nI a else nI b) else S (123 + 4 * (j + 1) + v) := fun j v hj hv => by
      rw [eS, sPut_at v hv]
      by_cases q : j = 19
      · rw [if_pos q, if_pos q]
      · rw [if_neg q, if_neg q, sShift_at (by omega) hv]
    refine ⟨⟨20, (x + 1) % 20, ⟨Nat.le_refl 20, Nat.mod_lt _ (by omega), ?_, m0, m1, fun j hj => ?_⟩, fun j hj => ?_⟩, ⟨d, d206, hdB⟩⟩
    · rw [eS]; unfold sPut; rw [upds rfl]
    · have key : ∀ v, v < 4 → (oNote (S, M) (nI kd) (nI a) (nI b)).1 (123 + 4 * j + v) = mNote M (nI kd) (S 206) (nI a) (nI b) (2 + 20 * v + rix ((x + 1) % 20) 20 j) := fun v hv => by
        rw [at_ j v hj hv, mNote_at h3 hx v hv rix_lt]
        by_cases q : j = 19
        · rw [if_pos q, if_pos (show rix ((x + 1) % 20) 20 j = x by unfold rix; omega)]
        · rw [if_neg q, if_neg (by unfold rix; omega)]
          have e : rix ((x + 1) % 20) 20 j = rix x 20 (j + 1) := by unfold rix; omega
          rw [e]
          obtain ⟨p0, p1, p2, p3⟩ := h4 (j + 1) (by omega)
          rcases (show v = 0 ∨ v = 1 ∨ v = 2 ∨ v = 3 by omega) with rfl | rfl | rfl | rfl
          · exact p0
          · exact p1
          · exact p2
          · exact p3
      exact ⟨key 0 (by omega), key 1 (by omega), key 2 (by omega), key 3 (by omega)⟩
    · by_cases q : j = 19
      · exact row _ j 19 (fun v hv => by rw [at_ j v hj hv, if_pos q, if_pos q]) q
      · obtain ⟨kd', d', a', b', p0, p1, p2, p3, p4⟩ := hm (j + 1) (by omega)
        exact ⟨kd', d', a', b', by have := at_ j 0 hj (by omega); rw [if_neg q] at this; exact this.trans p0, by have := at_ j 1 hj (by omega); rw [if_neg q] at this; exact this.trans p1, by have := at_ j 2 hj (by omega); rw [if_neg q] at this; exact this.trans p2, by have := at_ j 3 hj (by omega); rw [if_neg q] at this; exact this.trans p3, p4⟩
  · have eS : (oNote (S, M) (nI kd) (nI a) (nI b)).1 = sPut S c (nI kd) (S 206) (nI a) (nI b) := by
      show sNote S _ _ _ = _
      unfold sNote
      rw [hcN, if_neg c20]
    have at_ : ∀ j v, v < 4 → (oNote (S, M) (nI kd) (nI a) (nI b)).1 (123 + 4 * j + v) = if j = c then (if v = 0 then nI kd else if v = 1 then S 206 else if v = 2 then nI a else nI b) else S (123 + 4 * j + v) := fun j v hv => by
      rw [eS, sPut_at v hv]
    refine ⟨⟨c + 1, (x + 1) % 20, ⟨by omega, Nat.mod_lt _ (by omega), ?_, by rw [show c + 1 = min 20 (c + 1) by omega]; exact m0, m1, fun j hj => ?_⟩, fun j hj => ?_⟩, ⟨d, d206, hdB⟩⟩
    · rw [eS]; unfold sPut; rw [upds rfl]
    · have key : ∀ v, v < 4 → (oNote (S, M) (nI kd) (nI a) (nI b)).1 (123 + 4 * j + v) = mNote M (nI kd) (S 206) (nI a) (nI b) (2 + 20 * v + rix ((x + 1) % 20) (c + 1) j) := fun v hv => by
        rw [at_ j v hv, mNote_at h3 hx v hv rix_lt]
        by_cases q : j = c
        · rw [if_pos q, if_pos (show rix ((x + 1) % 20) (c + 1) j = x by unfold rix; omega)]
        · rw [if_neg q, if_neg (by unfold rix; omega)]
          have e : rix ((x + 1) % 20) (c + 1) j = rix x c j := by unfold rix; omega
          rw [e]
          obtain ⟨p0, p1, p2, p3⟩ := h4 j (by omega)
          rcases (show v = 0 ∨ v = 1 ∨ v = 2 ∨ v = 3 by omega) with rfl | rfl | rfl | rfl
          · exact p0
          · exact p1
          · exact p2
          · exact p3
      exact ⟨key 0 (by omega), key 1 (by omega), key 2 (by omega), key 3 (by omega)⟩
    · by_cases q : j = c
      · exact row _ j c (fun v hv => by rw [at_ j v hv, if_pos q, if_pos q]) q
      · exact mRow_ext (fun v hv => by rw [at_ j v hv, if_neg q]) (hm j (by omega))
/-! each change keeps the minutes -/
theorem MM_quar {B : Nat} {S M : pS} {w l : Nat} (h : MM B (S, M)) (hB : B < 10 ^ 7) (hw : w < 8) (hl : l < 8) : MM B (oQuarrel (S, M) w l) :=
  MM_note (kd := 1) (a := w) (b := l) (MM_ext h fun i hi => sSq_off hw hl (by omega)) hB (by omega) (by omega) (by omega)
theorem MM_join {B n i : Nat} (hB : B < 10 ^ 7) (hi : i < 8) : ∀ (q : Nat) (S M : pS), q < 8 → (∀ j, j < q → cN (S (50 + j)) < 8) → MM B (S, M) → MM B (oJL n i q (S, M)).2
  | 0, S, M, _, _, h => MM_ext h fun k hk => sCome_off (by omega) (by omega)
  | q + 1, S, M, hq, hz, h => by
    rw [oJL]
    have z8 := hz q (by omega)
    by_cases c : pDoQ S (cN (S (50 + q))) i = true
    · rw [if_pos c]
      by_cases c2 : pWin S n (cN (S (50 + q))) i = i
      · rw [if_pos c2]
        have h1 := MM_quar h hB (w := i) (l := cN (S (50 + q))) hi z8
        refine MM_join hB hi q _ _ (by omega) (fun j hj => ?_) (MM_ext (S := (oQuarrel (S, M) i (cN (S (50 + q)))).1) h1 fun k hk => updn (by omega))
        rw [updn (by omega)]
        have e : (oQuarrel (S, M) i (cN (S (50 + q)))).1 (50 + j) = S (50 + j) := by
          obtain ⟨⟨c', x', hm, -⟩, -⟩ := h
          have e122 : S 122 = nI c' := hm.2.2.1
          have := hm.1
          exact qu_off (by rw [e122, cN_nI (by omega)]; exact hm.1) hi z8 (by omega)
        rw [e]
        exact hz j (by omega)
      · rw [if_neg c2]
        exact MM_quar h hB z8 hi
    · rw [if_neg c]
      exact MM_ext h fun k hk => sCome_off (by omega) (by omega)
theorem MM_draw {B q x z : Nat} {S M : pS} (h : MM B (S, M)) (hB : B < 10 ^ 7) (hq0 : 0 < q) (hq : q ≤ 8) (ez : S 50 = nI z) (hz : z < 8) (ex : S 205 = nI x) (hx : x ≤ 50) : MM B (oDraw1 (S, M) q) := by
  have ec : cN (S 50) = z := by rw [ez, cN_nI (by omega)]
  have h1 : MM B (oDrawA (S, M) q) := by
    show MM B (oNote (sFetch (sPump (sGo S q 0)) (cN (S 50)) (pBring (S 205)), M) 0 (nI (cN (S 50))) (pBring (S 205)))
    rw [ec, ex, bring_tab x (by omega)]
    exact MM_note (MM_ext h fun i hi => by rw [sFetch_off (by omega), sPump_off (by omega), sGo_off hq (by omega)]) hB (kd := 0) (by omega) (by omega) (by omega)
  unfold oDraw1
  split
  · exact MM_ext (S := (oDrawA (S, M) q).1) h1 fun k hk => by rw [show cN (S 50) = z from ec]; exact sCome_off (by omega) (by omega)
  · exact h1
theorem MM_drawN {B n q : Nat} {S M : pS} (hI : IA S n q) (h : MM B (S, M)) (hB : B < 10 ^ 7) : ∀ k, k ≤ sL S q → MM B (oDrawN k (S, M)).2
  | 0, _ => h
  | k + 1, hk => by
    have h' := MM_drawN hI h hB k (by omega)
    obtain ⟨q', a1, a2⟩ := IA_drawN (M := M) hI k (by omega)
    have hq8 := a1.1.2.2.2.1
    have hn := a1.1.2.1
    have hpos : 0 < q' := by
      rcases Nat.eq_zero_or_pos q' with e | e
      · subst e
        have e0 : sL (oDrawN k (S, M)).2.1 0 = 0 := rfl
        omega
      · exact e
    obtain ⟨z, hz, ez⟩ := a1.1.2.2.2.2.1 0 hpos
    obtain ⟨x, ex, hx⟩ := a1.2.2.2.2.2
    have e49 : cN ((oDrawN k (S, M)).2.1 49) = q' := by rw [a1.1.2.2.1, cN_nI (by omega)]
    have e2 : ((oDrawN k (S, M)).2.1, (oDrawN k (S, M)).2.2) = (oDrawN k (S, M)).2 := rfl
    have a := MM_draw (S := (oDrawN k (S, M)).2.1) (M := (oDrawN k (S, M)).2.2) h' hB hpos hq8 ez (by omega) ex hx
    rw [e2] at a
    rw [drawN_2, e49]
    exact a
theorem sweep_off : ∀ (k : Nat) (S : pS), cN (S 49) ≤ 8 → ∀ i, (i < 49 ∨ 58 ≤ i) → sSweep k S i = S i
  | 0, S, _, i, _ => rfl
  | k + 1, S, h, i, hi => by
    rw [sSweep]
    by_cases c : pLeft S (cN (S (50 + k))) = 0
    · rw [if_pos c, sweep_off k _ (by unfold sGo; rw [upds rfl, cN_nI (by omega)]; omega) i hi, sGo_off h hi]
    · rw [if_neg c, sweep_off k S h i hi]
theorem MM_vote {B n q : Nat} {S M : pS} (hI : IA S n q) (h : MM B (S, M)) (hB : B < 10 ^ 7) : MM B (oVote (S, M)).2 := by
  have hml := pMost_le S (cN (S 0)) 3
  have hq := hI.1.2.2.2.1
  have h1 : MM B (oNote (upd S 203 (nI (pMost S (cN (S 0)) 3)), M) (nI 2) (nI (pMost S (cN (S 0)) 3)) (nI 0)) :=
    MM_note (MM_ext h fun i hi => updn (by omega)) hB (by omega) (by omega) (by omega)
  have e49 : (oNote (upd S 203 (nI (pMost S (cN (S 0)) 3)), M) (nI 2) (nI (pMost S (cN (S 0)) 3)) (nI 0)).1 49 = nI q := by
    show sNote (upd S 203 (nI (pMost S (cN (S 0)) 3))) (nI 2) (nI (pMost S (cN (S 0)) 3)) (nI 0) 49 = nI q
    rw [sNote_off (by rw [updn (by omega)]; exact hI.2.1.2) (by omega), updn (by omega)]
    exact hI.1.2.2.1
  exact MM_ext (S := (oNote (upd S 203 (nI (pMost S (cN (S 0)) 3)), M) (nI 2) (nI (pMost S (cN (S 0)) 3)) (nI 0)).1) h1 fun i hi => sweep_off _ _ (by show cN ((oNote (upd S 203 (nI (pMost S (cN (S 0)) 3)), M) (nI 2) (nI (pMost S (cN (S 0)) 3)) (nI 0)).1 49) ≤ 8; rw [e49, cN_nI (by omega)]; exact hq) i (by omega)
theorem MM_renew {B : Nat} {S M : pS} (h : MM B (S, M)) (hB : B < 10 ^ 7) : MM B (oRenew (S, M)).2 :=
  MM_note (kd := 3) (a := 0) (b := 0) (MM_ext h fun i hi => (updn (by omega)).trans (updn (by omega))) hB (by omega) (by omega) (by omega)
theorem nightN_off {S : pS} {n : Nat} (hn : n ≤ 8) : ∀ (k i : Nat), (122 ≤ i ∧ i < 203) → sNightN n k S i = S i
  | 0, i, _ => rfl
  | k + 1, i, hi => by
    show sNight1 n (sNightN n k S) i = _
    unfold sNight1
    rw [sRain_off (by omega), sClear_off hn (by omega), updn (by omega), nightN_off hn k i hi]
theorem MM_night {B n k : Nat} {S M : pS} (hn : n ≤ 8) (h : MM B (S, M)) : MM (B + k) (sNightN n k S, M) := by
  obtain ⟨⟨c, x, ⟨hc, hx, h1, h2, h3, h4⟩, hm⟩, ⟨d, hd, hB⟩⟩ := h
  have off := nightN_off (S := S) hn k
  refine ⟨⟨c, x, ⟨hc, hx, (off 122 (by omega)).trans h1, h2, h3, fun j hj => ?_⟩, fun j hj => mRow_ext (fun v hv => off _ (by omega)) (hm j hj)⟩, ⟨d + k, day_nightN hn hd k, by omega⟩⟩
  obtain ⟨a, b, f, g⟩ := h4 j hj
  exact ⟨(off _ (by omega)).trans a, (off _ (by omega)).trans b, (off _ (by omega)).trans f, (off _ (by omega)).trans g⟩
