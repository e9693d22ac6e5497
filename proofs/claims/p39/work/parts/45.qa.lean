/-! ===== sums that every change keeps ===== -/
def rs (f : Nat → Int32) : Nat → Int32
  | 0 => 0
  | k + 1 => rs f k + f k
theorem rs_ext {f g : Nat → Int32} : ∀ {k : Nat}, (∀ j, j < k → f j = g j) → rs f k = rs g k
  | 0, _ => rfl
  | k + 1, h => by
    simp only [rs]
    rw [rs_ext (fun j hj => h j (by omega)), h k (by omega)]
theorem rs_one {f g : Nat → Int32} {i : Nat} {v : Int32} (hi : g i = f i + v) : ∀ {k : Nat}, (∀ j, j < k → j ≠ i → g j = f j) → i < k → rs g k = rs f k + v
  | 0, _, h => absurd h (by omega)
  | k + 1, ho, h => by
    simp only [rs]
    by_cases c : k = i
    · subst c
      rw [rs_ext (f := g) (g := f) (fun j hj => ho j (by omega) (by omega)), hi, Int32.add_assoc]
    · rw [rs_one hi (k := k) (fun j hj => ho j (by omega)) (by omega), ho k (by omega) c, Int32.add_assoc, Int32.add_assoc, Int32.add_comm v]
theorem rs_zero {f : Nat → Int32} : ∀ {k : Nat}, (∀ j, j < k → f j = 0) → rs f k = 0
  | 0, _ => rfl
  | k + 1, h => by
    simp only [rs]
    rw [rs_zero (fun j hj => h j (by omega)), h k (by omega)]
    rfl
theorem rs_cut {f : Nat → Int32} {n : Nat} : ∀ {k : Nat}, n ≤ k → (∀ j, n ≤ j → j < k → f j = 0) → rs f k = rs f n
  | 0, h, _ => by rw [Nat.le_zero.mp h]
  | k + 1, h, z => by
    by_cases c : n = k + 1
    · rw [c]
    · simp only [rs]
      rw [z k (by omega) (by omega), rs_cut (k := k) (by omega) (fun j a b => z j a (by omega))]
      simp
/-- the numbers that add up, of n households -/
def QA (S : pS) (n : Nat) : Prop :=
  (∃ r, S 208 = nI r ∧ r ≤ 9) ∧ (∀ i, n ≤ i → i < 8 → S (1 + 6 * i + 5) = 0) ∧ rs (fun i => S (1 + 6 * i + 5)) 8 = S 210 ∧
  (∀ w l, w < 8 → l < 8 → (n ≤ w ∨ n ≤ l ∨ w = l) → S (58 + 8 * w + l) = 0) ∧ rs (fun w => rs (fun l => S (58 + 8 * w + l)) 8) 8 = S 213 ∧
  S 204 + S 210 + S 211 = 500 + S 214 ∧ ∃ v, S 204 = nI v ∧ v ≤ 999
/-- the places that these are read from -/
def qP (i : Nat) : Prop := (∃ j, j < 8 ∧ i = 1 + 6 * j + 5) ∨ (58 ≤ i ∧ i < 122) ∨ i = 204 ∨ i = 210 ∨ i = 211 ∨ i = 213 ∨ i = 214 ∨ i = 208
theorem QA_ext {S T : pS} {n : Nat} (h : QA S n) (e : ∀ i, qP i → T i = S i) : QA T n := by
  have e5 : ∀ j, j < 8 → T (1 + 6 * j + 5) = S (1 + 6 * j + 5) := fun j hj => e _ (Or.inl ⟨j, hj, rfl⟩)
  have e6 : ∀ w l, w < 8 → l < 8 → T (58 + 8 * w + l) = S (58 + 8 * w + l) := fun w l hw hl => e _ (Or.inr (by omega))
  have e7 : ∀ i, i = 204 ∨ i = 210 ∨ i = 211 ∨ i = 213 ∨ i = 214 ∨ i = 208 → T i = S i := fun i hi => e _ (Or.inr (by omega))
  obtain ⟨⟨r, h0, h9⟩, h1, h2, h3, h4, h5, v, h6, h7⟩ := h
  refine ⟨⟨r, by rw [e7 208 (by omega)]; exact h0, h9⟩, fun i a b => by rw [e5 i b]; exact h1 i a b, ?_, fun w l a b c => by rw [e6 w l a b]; exact h3 w l a b c, ?_, ?_, v, by rw [e7 204 (by omega)]; exact h6, h7⟩
  · rw [e7 210 (by omega), ← h2]
    exact rs_ext fun j hj => e5 j hj
  · rw [e7 213 (by omega), ← h4]
    exact rs_ext fun w hw => rs_ext fun l hl => e6 w l hw hl
  · rw [e7 204 (by omega), e7 210 (by omega), e7 211 (by omega), e7 214 (by omega)]
    exact h5
theorem qP_b {i : Nat} (h : qP i) : (i < 49 ∧ 6 ≤ i ∧ i % 6 = 0) ∨ (58 ≤ i ∧ i < 122) ∨ i = 204 ∨ i = 210 ∨ i = 211 ∨ i = 213 ∨ i = 214 ∨ i = 208 := by
  rcases h with ⟨j, hj, rfl⟩ | h
  · left; omega
  · right; exact h
theorem QA_quar {S M : pS} {n w l : Nat} (h : QA S n) (ht : cN (S 122) ≤ 20) (hw : w < n) (hl : l < n) (hn : n ≤ 8) (hwl : w ≠ l) : QA (oQuarrel (S, M) w l).1 n := by
  have off : ∀ i, (i < 122 ∨ 203 ≤ i) → (oQuarrel (S, M) w l).1 i = sSq S w l i := fun i hi => by
    show sNote (sSq S w l) _ _ _ i = _
    rw [sNote_off (by rw [sSq_off (by omega) (by omega) (by omega)]; exact ht) hi]
  refine QA_ext (S := sSq S w l) ?_ fun i hi => off i (by have := qP_b hi; omega)
  have o1 : ∀ i, qP i → i ≠ 213 → i ≠ 58 + 8 * w + l → sSq S w l i = S i := fun i h6 hi hx => by
    have := qP_b h6
    unfold sSq sSq5 sSq4 sSq3 sSq2 sSq1
    rw [updn (by omega), updn (by omega), updn (by omega), updn (by omega), updn (by omega)]
  have oq : sSq S w l (58 + 8 * w + l) = S (58 + 8 * w + l) + 1 := by
    unfold sSq sSq5 sSq4 sSq3 sSq2 sSq1
    rw [updn (by omega), upds rfl, updn (by omega), updn (by omega), updn (by omega)]
  have of_ : sSq S w l 213 = S 213 + 1 := by
    unfold sSq sSq5 sSq4 sSq3 sSq2 sSq1
    rw [upds rfl, updn (by omega), updn (by omega), updn (by omega), updn (by omega)]
  have e5 : ∀ j, j < 8 → sSq S w l (1 + 6 * j + 5) = S (1 + 6 * j + 5) := fun j hj => o1 _ (Or.inl ⟨j, hj, rfl⟩) (by omega) (by omega)
  have e6 : ∀ a b, a < 8 → b < 8 → (a ≠ w ∨ b ≠ l) → sSq S w l (58 + 8 * a + b) = S (58 + 8 * a + b) := fun a b ha hb c => o1 _ (Or.inr (by omega)) (by omega) (by omega)
  have e7 : ∀ i, i = 204 ∨ i = 210 ∨ i = 211 ∨ i = 214 ∨ i = 208 → sSq S w l i = S i := fun i hi => o1 _ (Or.inr (by omega)) (by omega) (by omega)
  obtain ⟨⟨r, h0, h9⟩, h1, h2, h3, h4, h5, v, h6, h7⟩ := h
  refine ⟨⟨r, by rw [e7 208 (by omega)]; exact h0, h9⟩, fun i a b => by rw [e5 i b]; exact h1 i a b, ?_, fun a b ha hb c => by rw [e6 a b ha hb (by omega)]; exact h3 a b ha hb c, ?_, ?_, v, by rw [e7 204 (by omega)]; exact h6, h7⟩
  · rw [e7 210 (by omega), ← h2]
    exact rs_ext fun j hj => e5 j hj
  · rw [of_, ← h4]
    refine rs_one (i := w) ?_ (fun j hj hne => rs_ext fun b hb => e6 j b hj hb (Or.inl hne)) (show w < 8 by omega)
    exact rs_one (i := l) oq (fun b hb hne => e6 w b (by omega) hb (Or.inr hne)) (show l < 8 by omega)
  · rw [e7 204 (by omega), e7 210 (by omega), e7 211 (by omega), e7 214 (by omega)]
    exact h5
theorem QA_join {n i : Nat} : ∀ (q : Nat) (S M : pS), IA S n q → i < n → (∀ j, j < q → S (50 + j) ≠ nI i) → 1 ≤ pLeft S i → QA S n → QA (oJL n i q (S, M)).2.1 n
  | 0, S, M, h, hi, hno, hp, hQ => QA_ext hQ fun k hk => sCome_off (by omega) (by have := qP_b hk; omega)
  | q + 1, S, M, h, hi, hno, hp, hQ => by
    have hn := h.1.2.1
    have hN := h.2.1
    have hr := pSh_room h.1 hi hno
    obtain ⟨z, hz, ez⟩ := h.1.2.2.2.2.1 q (by omega)
    have hzi : z ≠ i := fun e => hno q (by omega) (by rw [ez, e])
    have hzp : 1 ≤ pLeft S z := by
      have := h.2.2.2.2.1 q (by omega)
      rw [ez, cN_nI (by omega)] at this
      exact this
    show QA (if pDoQ S (cN (S (50 + q))) i = true then (if pWin S n (cN (S (50 + q))) i = i then oJL n i q (upd (oQuarrel (S, M) i (cN (S (50 + q)))).1 49 (nI q), (oQuarrel (S, M) i (cN (S (50 + q)))).2) else (-1, oQuarrel (S, M) (cN (S (50 + q))) i)) else (nI (q + 1), (sCome S (q + 1) i, M))).2.1 n
    rw [ez, cN_nI (by omega)]
    by_cases c : pDoQ S z i = true
    · rw [if_pos c]
      by_cases c2 : pWin S n z i = i
      · rw [if_pos c2]
        obtain ⟨a1, a2, a3⟩ := IX_quar (M := M) h (w := i) (l := z) (by omega) (by omega) (fun e => hzi e.symm) hzp
        refine QA_join q _ _ (IX_last a1 (by rw [a3 q (by omega)]; exact ez)) hi (fun j hj => ?_) ?_ ?_
        · rw [updn (by omega), a3 j (by omega)]; exact hno j (by omega)
        · rw [pLeft_loc (S := (oQuarrel (S, M) i z).1) (fun k hk => updn (by omega)) (updn (by omega)) (updn (by omega))]
          exact a2 i (by omega) (fun e => hzi e.symm) hp
        · exact QA_ext (QA_quar (M := M) hQ hN.2 hi hz hn (fun e => hzi e.symm)) fun k hk => updn (by have := qP_b hk; omega)
      · rw [if_neg c2]
        exact QA_quar (M := M) hQ hN.2 hz hi hn hzi
    · rw [if_neg c]
      exact QA_ext hQ fun k hk => sCome_off (by omega) (by have := qP_b hk; omega)
theorem QA_leave {S : pS} {n q u : Nat} (h : QA S n) (hq : q ≤ 8) : QA (sGo S q u) n := QA_ext h fun k hk => sGo_off hq (by have := qP_b hk; omega)
theorem QA_sweep {n : Nat} (k : Nat) (S : pS) (h8 : cN (S 49) ≤ 8) (h : QA S n) : QA (sSweep k S) n := QA_ext h fun i hi => sweep_off k S h8 i (by have := qP_b hi; omega)
theorem QA_vote {S M : pS} {n q : Nat} (hI : IA S n q) (h : QA S n) : QA (oVote (S, M)).2.1 n := by
  rw [vote_ref hI.1 rfl]
  have hq := hI.1.2.2.2.1
  have hN := hI.2.1
  have key : ∀ i, (i < 122 ∨ 203 ≤ i) → sNote (upd S 203 (nI (pMost S n 3))) 2 (nI (pMost S n 3)) 0 i = upd S 203 (nI (pMost S n 3)) i := fun i hi => sNote_off (by rw [updn (by omega)]; exact hN.2) hi
  refine QA_sweep q _ ?_ ?_
  · rw [key 49 (by omega), updn (by omega), hI.1.2.2.1, cN_nI (by omega)]; exact hq
  · refine QA_ext h fun i hi => ?_
    have := qP_b hi
    rw [key i (by omega), updn (by omega)]
theorem QA_renew {S M : pS} {n q : Nat} (hI : IA S n q) (h : QA S n) : QA (oRenew (S, M)).2.1 n := by
  have hN := hI.2.1
  refine QA_ext h fun i hi => ?_
  have := qP_b hi
  show sNote (upd (upd S 209 (S 209 - 20)) 205 0) 3 0 0 i = _
  rw [sNote_off (by rw [updn (by omega), updn (by omega)]; exact hN.2) (by omega), updn (by omega), updn (by omega)]
theorem rain_tab : ∀ r, r < 10 → (10 : Int32) * nI r = nI (10 * r) := by decide +kernel
theorem jmin999_tab : ∀ v, v < 1100 → jmin 999 (nI v) = nI (min 999 v) := by decide +kernel
theorem QA_night1 {S : pS} {n r : Nat} (hn : n ≤ 8) (hr : S 208 = nI r) (hr9 : r ≤ 9) (h : QA S n) : QA (sNight1 n S) n := by
  obtain ⟨-, h1, h2, h3, h4, h5, v, h6, h7⟩ := h
  have off : ∀ i, qP i → i ≠ 214 → i ≠ 204 → i ≠ 211 → sNight1 n S i = S i := fun i hi a b c => by
    have := qP_b hi
    unfold sNight1
    rw [sRain_off (by omega)]
    unfold sClear
    rw [if_neg (by omega), updn (by omega)]
  have o2 : ∀ i, 203 ≤ i → sClear n (upd S 49 0) i = S i := fun i hi => by rw [sClear_off hn (by omega), updn (by omega)]
  have eR : pRain (sClear n (upd S 49 0)) = nI (v + 10 * r) := by
    unfold pRain
    rw [o2 204 (by omega), o2 208 (by omega), h6, hr, rain_tab r (by omega), nI_add]
  have eJ : jmin 999 (pRain (sClear n (upd S 49 0))) = nI (min 999 (v + 10 * r)) := by rw [eR]; exact jmin999_tab _ (by omega)
  have e204 : sNight1 n S 204 = nI (min 999 (v + 10 * r)) := by
    unfold sNight1 sRain
    rw [updn (by omega), updn (by omega), updn (by omega), upds rfl, eJ]
  have e211 : sNight1 n S 211 = S 211 + (S 204 + 10 * S 208 - nI (min 999 (v + 10 * r))) := by
    unfold sNight1 sRain
    rw [updn (by omega), updn (by omega), upds rfl, eJ, o2 211 (by omega)]
    unfold pRain
    rw [o2 204 (by omega), o2 208 (by omega)]
  have e214 : sNight1 n S 214 = S 214 + 10 * S 208 := by
    unfold sNight1 sRain
    rw [updn (by omega), updn (by omega), updn (by omega), updn (by omega), upds rfl, o2 214 (by omega), o2 208 (by omega)]
  have e5 : ∀ j, j < 8 → sNight1 n S (1 + 6 * j + 5) = S (1 + 6 * j + 5) := fun j hj => off _ (Or.inl ⟨j, hj, rfl⟩) (by omega) (by omega) (by omega)
  have e6 : ∀ w l, w < 8 → l < 8 → sNight1 n S (58 + 8 * w + l) = S (58 + 8 * w + l) := fun w l hw hl => off _ (Or.inr (by omega)) (by omega) (by omega) (by omega)
  refine ⟨⟨r, by rw [off 208 (Or.inr (by omega)) (by omega) (by omega) (by omega)]; exact hr, hr9⟩, fun i a b => by rw [e5 i b]; exact h1 i a b, ?_, fun w l a b c => by rw [e6 w l a b]; exact h3 w l a b c, ?_, ?_, _, e204, by omega⟩
  · rw [off 210 (Or.inr (by omega)) (by omega) (by omega) (by omega), ← h2]
    exact rs_ext fun j hj => e5 j hj
  · rw [off 213 (Or.inr (by omega)) (by omega) (by omega) (by omega), ← h4]
    exact rs_ext fun w hw => rs_ext fun l hl => e6 w l hw hl
  · rw [e204, e211, e214, off 210 (Or.inr (by omega)) (by omega) (by omega) (by omega), ← Int32.add_assoc 500, ← h5]
    generalize nI (min 999 (v + 10 * r)) = x
    generalize S 204 = a
    generalize S 210 = b
    generalize S 211 = c
    generalize 10 * S 208 = d
    grind
theorem QA_nightN {S : pS} {n r : Nat} (hn : n ≤ 8) (hr : S 208 = nI r) (hr9 : r ≤ 9) (h : QA S n) : ∀ k, QA (sNightN n k S) n
  | 0 => h
  | k + 1 => QA_night1 hn (by rw [night_off hn (by omega)]; exact hr) hr9 (QA_nightN hn hr hr9 h k)
theorem QA_house {S : pS} {n : Nat} {m p t : Int32} (hn : n < 8) (h : QA S n) : QA (sHouse S n m p t) (n + 1) := by
  have off : ∀ i, qP i → sHouse S n m p t i = S i := fun i hi => by
    have := qP_b hi
    unfold sHouse
    rw [updn (by omega), updn (by omega), updn (by omega), updn (by omega)]
  obtain ⟨h0, h1, h2, h3, h4, h5, h6⟩ := QA_ext h off
  exact ⟨h0, fun i a b => h1 i (by omega) b, h2, fun w l a b c => h3 w l a b (by omega), h4, h5, h6⟩
/-! draws -/
def brN (x : Nat) : Nat → Nat
  | 0 => 0
  | k + 1 => brN x k + (10 - min 50 (x + k) / 10)
theorem bring_tab2 : ∀ y, y < 111 → pBring (nI y) = nI (10 - min 50 y / 10) := by decide +kernel
theorem brN_le (x : Nat) : ∀ k, brN x k ≤ 10 * k
  | 0 => Nat.le_refl 0
  | k + 1 => by have := brN_le x k; simp only [brN]; omega
theorem brings_n {S : pS} {x : Nat} (hx : S 205 = nI x) (h50 : x ≤ 50) : ∀ k, k ≤ 60 → pBrings S k = nI (brN x k)
  | 0, _ => rfl
  | k + 1, hk => by
    simp only [pBrings, brN]
    rw [brings_n hx h50 k (by omega), hx, nI_add, bring_tab2 _ (by omega), nI_add]
set_option maxHeartbeats 2000000 in
theorem QA_draw {S M : pS} {n q x v : Nat} (hI : IA S n q) (hq0 : 0 < q) (h : QA S n) (hx : S 205 = nI x) (h50 : x ≤ 50) (hv : S 204 = nI v) (hv9 : v ≤ 999) (hb : 10 - x / 10 ≤ v) : QA (oDraw1 (S, M) q).1 n ∧ (oDraw1 (S, M) q).1 204 = nI (v - (10 - x / 10)) ∧ (oDraw1 (S, M) q).1 205 = nI (min 50 (x + 1)) := by
  have hn := hI.1.2.1
  have hq := hI.1.2.2.2.1
  have hN := hI.2.1
  obtain ⟨z, hz, ez⟩ := hI.1.2.2.2.2.1 0 hq0
  have ez : S 50 = nI z := ez
  have eB : pBring (S 205) = nI (10 - x / 10) := by rw [hx]; exact bring_tab x (by omega)
  have off : ∀ i, (i < 49 ∨ (58 ≤ i ∧ i < 122) ∨ 203 ≤ i) → (oDraw1 (S, M) q).1 i = sFetch (sPump (sGo S q 0)) z (pBring (S 205)) i := fun i hi => by
    have a := dA_off (M := M) (i := i) hN.2 hq ez (by omega) (by omega)
    unfold oDraw1
    rw [show cN ((S, M).1 50) = z from by rw [show (S, M).1 50 = S 50 from rfl, ez, cN_nI (by omega)]]
    split
    · show sCome (oDrawA (S, M) q).1 (q - 1) z i = _
      rw [sCome_off (by omega) (by omega)]; exact a
    · exact a
  have goff : ∀ k, (k < 49 ∨ 58 ≤ k) → sGo S q 0 k = S k := fun k hk => sGo_off hq hk
  have o1 : ∀ i, qP i → i ≠ 204 → i ≠ 210 → i ≠ 1 + 6 * z + 5 → (oDraw1 (S, M) q).1 i = S i := fun i hi a b c => by
    have := qP_b hi
    rw [off i (by omega), sFetch_off (by omega), sPump_off (by omega), goff i (by omega)]
  have ez5 : (oDraw1 (S, M) q).1 (1 + 6 * z + 5) = S (1 + 6 * z + 5) + nI (10 - x / 10) := by
    rw [off _ (by omega)]
    unfold sFetch
    rw [upds rfl, sPump_off (by omega), goff _ (by omega), eB]
  have e204 : (oDraw1 (S, M) q).1 204 = S 204 - nI (10 - x / 10) := by
    rw [off _ (by omega), sFetch_off (by omega)]
    unfold sPump
    rw [updn (by omega), updn (by omega), updn (by omega), upds rfl, goff 204 (by omega), goff 205 (by omega), eB]
  have e210 : (oDraw1 (S, M) q).1 210 = S 210 + nI (10 - x / 10) := by
    rw [off _ (by omega), sFetch_off (by omega)]
    unfold sPump
    rw [updn (by omega), updn (by omega), upds rfl, goff 210 (by omega), goff 205 (by omega), eB]
  have e205 : (oDraw1 (S, M) q).1 205 = nI (min 50 (x + 1)) := by
    rw [off _ (by omega), sFetch_off (by omega)]
    unfold sPump
    rw [upds rfl, goff 205 (by omega), hx]
    exact wear_tab x (by omega)
  have e204n : S 204 - nI (10 - x / 10) = nI (v - (10 - x / 10)) := by
    rw [hv]
    exact pk_sub (by omega)
  obtain ⟨⟨r, h0, h9⟩, h1, h2, h3, h4, h5, -⟩ := h
  have e5 : ∀ j, j < 8 → j ≠ z → (oDraw1 (S, M) q).1 (1 + 6 * j + 5) = S (1 + 6 * j + 5) := fun j hj hne => o1 _ (Or.inl ⟨j, hj, rfl⟩) (by omega) (by omega) (by omega)
  have e6 : ∀ w l, w < 8 → l < 8 → (oDraw1 (S, M) q).1 (58 + 8 * w + l) = S (58 + 8 * w + l) := fun w l hw hl => o1 _ (Or.inr (by omega)) (by omega) (by omega) (by omega)
  have e7 : ∀ i, i = 211 ∨ i = 213 ∨ i = 214 ∨ i = 208 → (oDraw1 (S, M) q).1 i = S i := fun i hi => o1 _ (Or.inr (by omega)) (by omega) (by omega) (by omega)
  clear off o1
  revert ez5 e204 e210 e205 e5 e6 e7
  generalize (oDraw1 (S, M) q).1 = T
  intro ez5 e204 e210 e205 e5 e6 e7
  refine ⟨⟨⟨r, by rw [e7 208 (by omega)]; exact h0, h9⟩, fun i a b => by rw [e5 i b (by omega)]; exact h1 i a b, ?_, fun w l a b c => by rw [e6 w l a b]; exact h3 w l a b c, ?_, ?_, v - (10 - x / 10), by rw [e204, e204n], by omega⟩, by rw [e204, e204n], e205⟩
  · rw [e210, ← h2]
    exact rs_one (i := z) ez5 (fun j hj hne => e5 j hj hne) (by omega)
  · rw [e7 213 (by omega), ← h4]
    exact rs_ext fun w hw => rs_ext fun l hl => e6 w l hw hl
  · rw [e204, e210, e7 211 (by omega), e7 214 (by omega), ← h5]
    generalize nI (10 - x / 10) = y
    generalize S 204 = a
    generalize S 210 = b
    generalize S 211 = c
    grind
theorem QA_drawN {S M : pS} {n q x v : Nat} (hI : IA S n q) (h : QA S n) (hx : S 205 = nI x) (h50 : x ≤ 50) (hv : S 204 = nI v) (hv9 : v ≤ 999) : ∀ k, k ≤ 50 → k ≤ sL S q → brN x k ≤ v → QA (oDrawN k (S, M)).2.1 n ∧ (oDrawN k (S, M)).2.1 204 = nI (v - brN x k) ∧ (oDrawN k (S, M)).2.1 205 = nI (min 50 (x + k))
  | 0, _, _, _ => ⟨h, hv, by rw [show min 50 (x + 0) = x by omega]; exact hx⟩
  | k + 1, hk5, hk, hb => by
    have hbk : brN x (k + 1) = brN x k + (10 - min 50 (x + k) / 10) := rfl
    obtain ⟨a1, a2, a3⟩ := QA_drawN (M := M) hI h hx h50 hv hv9 k (by omega) (by omega) (by omega)
    obtain ⟨q', h1, h2⟩ := IA_drawN (M := M) hI k (by omega)
    have hq8 := h1.1.2.2.2.1
    have e49 : cN ((oDrawN k (S, M)).2.1 49) = q' := by rw [h1.1.2.2.1, cN_nI (by omega)]
    have hpos : 0 < q' := by
      rcases Nat.eq_zero_or_pos q' with e | e
      · subst e
        have e0 : sL (oDrawN k (S, M)).2.1 0 = 0 := rfl
        omega
      · exact e
    obtain ⟨b1, b2, b3⟩ := QA_draw (S := (oDrawN k (S, M)).2.1) (M := (oDrawN k (S, M)).2.2) h1 hpos a1 a3 (by omega) a2 (by omega) (by omega)
    have e2 : ((oDrawN k (S, M)).2.1, (oDrawN k (S, M)).2.2) = (oDrawN k (S, M)).2 := rfl
    rw [e2] at b1 b2 b3
    have e1 : (oDrawN (k + 1) (S, M)).2 = oDraw1 (oDrawN k (S, M)).2 q' := by rw [drawN_2, e49]
    rw [e1]
    generalize (oDraw1 (oDrawN k (S, M)).2 q').1 = T at b1 b2 b3 ⊢
    have f2 : v - brN x k - (10 - min 50 (x + k) / 10) = v - brN x (k + 1) := by omega
    have f3 : min 50 (min 50 (x + k) + 1) = min 50 (x + (k + 1)) := by omega
    rw [f2] at b2
    rw [f3] at b3
    exact ⟨b1, b2, b3⟩
