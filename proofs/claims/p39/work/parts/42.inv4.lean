/-! ===== many draws, the vote, nights; the minutes ===== -/
theorem drawN_2 (k : Nat) (X : pX) : (oDrawN (k + 1) X).2 = oDraw1 (oDrawN k X).2 (cN ((oDrawN k X).2.1 49)) := by
  simp only [oDrawN]
theorem IA_drawN {S M : pS} {n q : Nat} (h : IA S n q) : ∀ k, k ≤ sL S q → ∃ q', IA (oDrawN k (S, M)).2.1 n q' ∧ sL (oDrawN k (S, M)).2.1 q' + k = sL S q
  | 0, _ => ⟨q, h, rfl⟩
  | k + 1, hk => by
    obtain ⟨q', h1, h2⟩ := IA_drawN (M := M) h k (by omega)
    have hq8 := h1.1.2.2.2.1
    have e49 : cN ((oDrawN k (S, M)).2.1 49) = q' := by rw [h1.1.2.2.1, cN_nI (by omega)]
    have hpos : 0 < q' := by
      rcases Nat.eq_zero_or_pos q' with e | e
      · subst e
        have e0 : sL (oDrawN k (S, M)).2.1 0 = 0 := rfl
        omega
      · exact e
    obtain ⟨q2, a1, a2⟩ := IA_draw (S := (oDrawN k (S, M)).2.1) (M := (oDrawN k (S, M)).2.2) h1 hpos
    have e2 : ((oDrawN k (S, M)).2.1, (oDrawN k (S, M)).2.2) = (oDrawN k (S, M)).2 := rfl
    rw [e2] at a1 a2
    have e1 : (oDrawN (k + 1) (S, M)).2 = oDraw1 (oDrawN k (S, M)).2 q' := by rw [drawN_2, e49]
    rw [e1]
    exact ⟨q2, a1, by omega⟩
theorem draw_j {S : pS} {n q j : Nat} (h : IA S n q) (hj : j ≤ 50) (hW : (wDraw S (nI j)).1 = 0) : j ≤ sL S q ∧ 1 ≤ j := by
  rw [wDraw_e h.1] at hW
  obtain ⟨e, e40⟩ := all_n h
  by_cases c : pIn (nI j) 1 50 = true
  · rw [if_pos c] at hW
    by_cases c2 : pAll S q < nI j
    · rw [if_pos c2] at hW; exact absurd (show (7 : Int32) = 0 from hW) (by decide)
    · rw [e] at c2
      have c3 := (nI_leI (by omega) (by omega)).mp (Int32.not_lt.mp c2)
      simp only [pIn, Bool.and_eq_true, decide_eq_true_eq] at c
      exact ⟨c3, (nI_le1 (by omega)).mp c.1⟩
  · rw [if_neg c] at hW; exact absurd (show (1 : Int32) = 0 from hW) (by decide)
theorem mOK_draw {S M : pS} {q x : Nat} (h : mOK M x) : ∃ x', mOK (oDraw1 (S, M) q).2 x' := by
  have a : mOK (oDrawA (S, M) q).2 ((x + 1) % 20) := mOK_n h _ _ _ _
  unfold oDraw1
  split
  · exact ⟨_, a⟩
  · exact ⟨_, a⟩
theorem mOK_drawN {S M : pS} {x : Nat} (h : mOK M x) : ∀ k, ∃ x', mOK (oDrawN k (S, M)).2.2 x'
  | 0 => ⟨x, h⟩
  | k + 1 => by
    obtain ⟨x', h'⟩ := mOK_drawN (S := S) h k
    rw [drawN_2]
    have e2 : ((oDrawN k (S, M)).2.1, (oDrawN k (S, M)).2.2) = (oDrawN k (S, M)).2 := rfl
    have a := mOK_draw (S := (oDrawN k (S, M)).2.1) (q := cN ((oDrawN k (S, M)).2.1 49)) h'
    rw [e2] at a
    exact a
theorem draw_K {S M : pS} {n q x : Nat} (h : IA S n q) (hM : mOK M x) (v : Int32) : ∀ j, v = nI j → j ≤ 50 → (wDraw S v).1 = 0 → ∀ k, k ≤ j → ∃ q' x', pSh (oDrawN k (S, M)).2.1 n q' ∧ nOK (oDrawN k (S, M)).2.1 ∧ mOK (oDrawN k (S, M)).2.2 x' ∧ (k < j → 0 < q') := by
  intro j hv hj hW k hk
  subst hv
  obtain ⟨hj2, -⟩ := draw_j h hj hW
  obtain ⟨q', a1, a2⟩ := IA_drawN (M := M) h k (by omega)
  obtain ⟨x', hx⟩ := mOK_drawN (S := S) hM k
  refine ⟨q', x', a1.1, a1.2.1, hx, fun hkj => ?_⟩
  rcases Nat.eq_zero_or_pos q' with e | e
  · subst e
    have e0 : sL (oDrawN k (S, M)).2.1 0 = 0 := rfl
    omega
  · exact e
/-! the vote -/
def IK (S : pS) (n q k : Nat) : Prop := pSh S n q ∧ nOK S ∧ (∃ law, S 203 = nI law ∧ law ≤ 3) ∧ (∀ i, i < 8 → hOK S i) ∧ (∀ j, k ≤ j → j < q → 1 ≤ pLeft S (cN (S (50 + j)))) ∧ (∃ x, S 205 = nI x ∧ x ≤ 50)
theorem IK_left {S : pS} {n q k i : Nat} (h : IK S n q k) (hi : i < 8) (h0 : ¬ pLeft S i = 0) : 1 ≤ pLeft S i := by
  obtain ⟨hS, hN, ⟨law, hlw, hl3⟩, hH, hP, -⟩ := h
  obtain ⟨b, hb⟩ := bI_of hS.2.2.2.2.2.2.1
  obtain ⟨m, x, t, d, o, hr⟩ := hH i hi
  have km := hr.2.2.2.2.2.1
  have b1 := tuN_le (b := b) (law := law) (t := t) km
  have e := left_n hr hlw hl3 hb
  rw [e] at h0 ⊢
  refine (nI_le1 (by omega)).mpr ?_
  rcases Nat.eq_zero_or_pos (tuN b law m t - d - o) with z | z
  · rw [z] at h0; exact absurd rfl h0
  · exact z
theorem IA_sweep {n : Nat} : ∀ (k q : Nat) (S : pS), k ≤ q → IK S n q k → ∃ q', IA (sSweep k S) n q'
  | 0, q, S, _, h => ⟨q, h.1, h.2.1, h.2.2.1, h.2.2.2.1, fun j hj => h.2.2.2.2.1 j (Nat.zero_le j) hj, h.2.2.2.2.2⟩
  | k + 1, q, S, hk, h => by
    have hn := h.1.2.1
    have hq := h.1.2.2.2.1
    obtain ⟨z, hz, ez⟩ := h.1.2.2.2.2.1 k (by omega)
    have e49 : cN (S 49) = q := by rw [h.1.2.2.1, cN_nI (by omega)]
    show ∃ q', IA (sSweep k (if pLeft S (cN (S (50 + k))) = 0 then sGo S (cN (S 49)) k else S)) n q'
    by_cases c : pLeft S (cN (S (50 + k))) = 0
    · rw [if_pos c, e49]
      refine IA_sweep k (q - 1) _ (by omega) ?_
      obtain ⟨hS, hN, hl, hH, hP, ⟨x, ex, hx⟩⟩ := h
      have off : ∀ i, (i < 49 ∨ 58 ≤ i) → sGo S q k i = S i := fun i hi => sGo_off hq hi
      refine ⟨pSh_go hS (by omega), nOK_ext hN (off 122 (by omega)), by rw [off 203 (by omega)]; exact hl, fun i hi => hOK_loc (fun k' hk' => off _ (by omega)) (hH i hi), fun j hj hjq => ?_, ⟨x, by rw [off 205 (by omega)]; exact ex, hx⟩⟩
      have e1 : sGo S q k (50 + j) = S (50 + (j + 1)) := by
        unfold sGo
        rw [updn (by omega), if_pos (by omega)]; rfl
      obtain ⟨i, hi, ei⟩ := hS.2.2.2.2.1 (j + 1) (by omega)
      have a := hP (j + 1) (by omega) (by omega)
      rw [ei, cN_nI (by omega)] at a
      rw [e1, ei, cN_nI (by omega), pLeft_loc (S := S) (fun k' hk' => off _ (by omega)) (off 203 (by omega)) (off 207 (by omega))]
      exact a
    · rw [if_neg c]
      refine IA_sweep k q S (by omega) ⟨h.1, h.2.1, h.2.2.1, h.2.2.2.1, fun j hj hjq => ?_, h.2.2.2.2.2⟩
      rcases Nat.lt_or_ge k j with c2 | c2
      · exact h.2.2.2.2.1 j (by omega) hjq
      · have : j = k := by omega
        subst this
        refine IK_left h ?_ c
        rw [ez, cN_nI (by omega)]
        omega
theorem pMost_le (S : pS) (n : Nat) : ∀ k, pMost S n k ≤ k
  | 0 => Nat.le_refl 0
  | k + 1 => by
    have := pMost_le S n k
    rw [pMost]
    split <;> omega
theorem IA_vote {S M : pS} {n q : Nat} (h : IA S n q) : ∃ q', IA (oVote (S, M)).2.1 n q' := by
  rw [vote_ref h.1 rfl]
  have hq := h.1.2.2.2.1
  have hml := pMost_le S n 3
  have h1 : IK (upd S 203 (nI (pMost S n 3))) n q q := by
    obtain ⟨hS, hN, hl, hH, hP, ⟨x, ex, hx⟩⟩ := h
    exact ⟨pSh_ext hS fun i hi => updn (by omega), nOK_ext hN (updn (by omega)), ⟨_, upds rfl, hml⟩, fun i hi => hOK_loc (fun k hk => updn (by omega)) (hH i hi), fun j hj hjq => absurd hj (by omega), ⟨x, by rw [updn (by omega)]; exact ex, hx⟩⟩
  refine IA_sweep q q _ (Nat.le_refl q) ?_
  obtain ⟨hS, hN, hl, hH, hP, ⟨x, ex, hx⟩⟩ := h1
  have key : ∀ i, (i < 122 ∨ 203 ≤ i) → sNote (upd S 203 (nI (pMost S n 3))) 2 (nI (pMost S n 3)) 0 i = upd S 203 (nI (pMost S n 3)) i := fun i hi => sNote_off hN.2 hi
  exact ⟨pSh_ext hS fun i hi => key i (by omega), nOK_note hN _ _ _, by rw [key 203 (by omega)]; exact hl, fun i hi => hOK_loc (fun k hk => key _ (by omega)) (hH i hi), fun j hj hjq => absurd hj (by omega), ⟨x, by rw [key 205 (by omega)]; exact ex, hx⟩⟩
/-! nights -/
theorem IA_night1 {S : pS} {n q : Nat} (h : IA S n q) : IA (sNight1 n S) n 0 := by
  obtain ⟨hS, hN, hl, hH, hP, ⟨x, ex, hx⟩⟩ := h
  have hn := hS.2.1
  have off : ∀ i, (i = 0 ∨ (50 ≤ i ∧ i < 204) ∨ i = 205) → sNight1 n S i = S i := fun i hi => by
    unfold sNight1
    rw [sRain_off (by omega), sClear_off hn (by omega), updn (by omega)]
  have lane : ∀ i k, i < 8 → k < 5 → sNight1 n S (1 + 6 * i + k) = if i < n ∧ (k = 3 ∨ k = 4) then 0 else S (1 + 6 * i + k) := fun i k hi hk => by
    unfold sNight1
    rw [sRain_off (by omega)]
    unfold sClear
    have e1 : (1 + 6 * i + k - 1) / 6 = i := by omega
    have e2 : (1 + 6 * i + k - 1) % 6 = k := by omega
    rw [e1, e2, updn (by omega)]
    by_cases c : i < n ∧ (k = 3 ∨ k = 4)
    · rw [if_pos c, if_pos ⟨by omega, c⟩]
    · rw [if_neg c, if_neg (fun q => c q.2)]
  refine ⟨⟨by rw [off 0 (by omega)]; exact hS.1, hn, ?_, by omega, fun j hj => absurd hj (by omega), fun i j hi => absurd hi (by omega), ?_, by rw [off 205 (by omega)]; exact hS.2.2.2.2.2.2.2⟩, nOK_ext hN (off 122 (by omega)), by rw [off 203 (by omega)]; exact hl, fun i hi => ?_, fun j hj => absurd hj (by omega), ⟨x, by rw [off 205 (by omega)]; exact ex, hx⟩⟩
  · unfold sNight1
    rw [sRain_off (by omega), sClear_off hn (by omega), upds rfl]; rfl
  · unfold sNight1 sRain
    rw [upds rfl]
    cases decide (jmin 999 (pRain (sClear n (upd S 49 0))) < 100)
    · exact Or.inl rfl
    · exact Or.inr rfl
  · obtain ⟨m, xx, t, d, o, h0, h1, h2, h3, h4, h5⟩ := hH i hi
    by_cases c : i < n
    · exact ⟨m, xx, t, 0, 0, by rw [lane i 0 hi (by omega), if_neg (by omega)]; exact h0, by rw [lane i 1 hi (by omega), if_neg (by omega)]; exact h1, by rw [lane i 2 hi (by omega), if_neg (by omega)]; exact h2, by rw [lane i 3 hi (by omega), if_pos ⟨c, by omega⟩]; rfl, by rw [lane i 4 hi (by omega), if_pos ⟨c, by omega⟩]; rfl, h5.1, h5.2.1, h5.2.2.1, by omega⟩
    · exact hOK_loc (fun k hk => by rw [lane i k hi hk, if_neg (fun q => c q.1)]) ⟨m, xx, t, d, o, h0, h1, h2, h3, h4, h5⟩
theorem IA_nightN {S : pS} {n q : Nat} (h : IA S n q) : ∀ k, ∃ q', IA (sNightN n k S) n q'
  | 0 => ⟨q, h⟩
  | k + 1 => by
    obtain ⟨q', h'⟩ := IA_nightN h k
    exact ⟨0, IA_night1 h'⟩
theorem day_night {S : pS} {n : Nat} (hn : n ≤ 8) : sNight1 n S 206 = S 206 + 1 := by
  unfold sNight1 sRain
  rw [updn (by omega), upds rfl, sClear_off hn (by omega), updn (by omega)]
theorem day_nightN {S : pS} {n d : Nat} (hn : n ≤ 8) (h : S 206 = nI d) : ∀ k, sNightN n k S 206 = nI (d + k)
  | 0 => h
  | k + 1 => by
    show sNight1 n (sNightN n k S) 206 = _
    rw [day_night hn, day_nightN hn h k, nI_1]; rfl
/-! a household comes -/
theorem IA_house {S : pS} {n q : Nat} {x y t : Int32} (h : IA S n q) (hW : (wHouse S x y t).1 = 0) : IA (sHouse S n x y t) (n + 1) q := by
  have hn8 := ho_n h.1.1 h.1.2.1 hW
  obtain ⟨hS, hN, hl, hH, hP, ⟨w, ew, hw⟩⟩ := h
  have hin : pIn x 1 9 = true ∧ pIn y 0 19 = true ∧ pIn t 0 9 = true := by
    unfold wHouse at hW
    by_cases c : (pIn x 1 9 && pIn y 0 19 && pIn t 0 9) = true
    · simp only [Bool.and_eq_true] at c; exact ⟨c.1.1, c.1.2, c.2⟩
    · rw [if_neg c] at hW; exact absurd (show (1 : Int32) = 0 from hW) (by decide)
  obtain ⟨m, hm1, hm, rfl⟩ := pIn_nat (k := 9) (by omega) hin.1
  obtain ⟨p, hp, rfl⟩ := pIn_nat0 (k := 19) (by omega) hin.2.1
  obtain ⟨tt, htt, rfl⟩ := pIn_nat0 (k := 9) (by omega) hin.2.2
  have off : ∀ i, i ≠ 0 → i ≠ 1 + 6 * n + 0 → i ≠ 1 + 6 * n + 1 → i ≠ 1 + 6 * n + 2 → sHouse S n (nI m) (nI p) (nI tt) i = S i := fun i h0 h1 h2 h3 => by
    unfold sHouse
    rw [updn h0, updn h3, updn h2, updn h1]
  obtain ⟨s0, s1, s2, s3, s4, s5, s6, s7⟩ := hS
  refine ⟨⟨by unfold sHouse; rw [upds rfl], by omega, by rw [off 49 (by omega) (by omega) (by omega) (by omega)]; exact s2, s3, fun j hj => ?_, fun i j hi hj e => ?_, by rw [off 207 (by omega) (by omega) (by omega) (by omega)]; exact s6, by rw [off 205 (by omega) (by omega) (by omega) (by omega)]; exact s7⟩, nOK_ext hN (off 122 (by omega) (by omega) (by omega) (by omega)), by rw [off 203 (by omega) (by omega) (by omega) (by omega)]; exact hl, fun i hi => ?_, fun j hj => ?_, ⟨w, by rw [off 205 (by omega) (by omega) (by omega) (by omega)]; exact ew, hw⟩⟩
  · rw [off (50 + j) (by omega) (by omega) (by omega) (by omega)]
    obtain ⟨i, hi, ei⟩ := s4 j hj
    exact ⟨i, by omega, ei⟩
  · rw [off (50 + i) (by omega) (by omega) (by omega) (by omega), off (50 + j) (by omega) (by omega) (by omega) (by omega)] at e
    exact s5 i j hi hj e
  · by_cases c : i = n
    · subst c
      obtain ⟨m0, x0, t0, d, o, h0, h1, h2, h3, h4, h5⟩ := hH i hi
      refine ⟨m, p, tt, d, o, ?_, ?_, ?_, by rw [off _ (by omega) (by omega) (by omega) (by omega)]; exact h3, by rw [off _ (by omega) (by omega) (by omega) (by omega)]; exact h4, hm, hp, htt, h5.2.2.2⟩
      · unfold sHouse; rw [updn (by omega), updn (by omega), updn (by omega), upds rfl]
      · unfold sHouse; rw [updn (by omega), updn (by omega), upds rfl]
      · unfold sHouse; rw [updn (by omega), upds rfl]
    · exact hOK_loc (fun k hk => off _ (by omega) (by omega) (by omega) (by omega)) (hH i hi)
  · obtain ⟨i, hi, ei⟩ := s4 j hj
    have a := hP j hj
    rw [ei, cN_nI (by omega)] at a
    rw [off (50 + j) (by omega) (by omega) (by omega) (by omega), ei, cN_nI (by omega), pLeft_loc (S := S) (fun k hk => off _ (by omega) (by omega) (by omega) (by omega)) (off 203 (by omega) (by omega) (by omega) (by omega)) (off 207 (by omega) (by omega) (by omega) (by omega))]
    exact a
