/-! ===== quarrels, joining ===== -/
theorem jmin9_tab : ∀ t, t < 10 → jmin 9 (nI t + 1) = nI (min 9 (t + 1)) := by decide +kernel
theorem jmax0_tab : ∀ t, t < 10 → jmax 0 (nI t - 1) = nI (t - 1) := by decide +kernel
theorem sq_at {S : pS} {w l k : Nat} (hk : k < 49) (hw : w < 8) (hl : l < 8) : sSq S w l k = sSq3 (sSq2 (sSq1 S l) l) w k := by
  unfold sSq sSq5 sSq4
  rw [updn (by omega), updn (by omega)]
theorem sq_o {S : pS} {w l i k : Nat} (hi : i < 8) (hw : w < 8) (hl : l < 8) (h1 : i ≠ w) (h2 : i ≠ l) (hk : k < 5) : sSq S w l (1 + 6 * i + k) = S (1 + 6 * i + k) := by
  rw [sq_at (by omega) hw hl]
  unfold sSq3 sSq2 sSq1
  rw [updn (by omega), updn (by omega), updn (by omega)]
theorem sq_l {S : pS} {w l m x t d o : Nat} (hw : w < 8) (hl : l < 8) (hwl : w ≠ l) (h : hRow S l m x t d o) (hd : d + o + 1 ≤ 5) : hRow (sSq S w l) l m x (min 9 (t + 1)) d (o + 1) := by
  obtain ⟨h0, h1, h2, h3, h4, km, kx, kt, kd⟩ := h
  refine ⟨?_, ?_, ?_, ?_, ?_, km, kx, by omega, by omega⟩
  · rw [sq_at (by omega) hw hl]; unfold sSq3 sSq2 sSq1; rw [updn (by omega), updn (by omega), updn (by omega)]; exact h0
  · rw [sq_at (by omega) hw hl]; unfold sSq3 sSq2 sSq1; rw [updn (by omega), updn (by omega), updn (by omega)]; exact h1
  · rw [sq_at (by omega) hw hl]; unfold sSq3 sSq2 sSq1; rw [updn (by omega), upds rfl, updn (by omega), h2]; exact jmin9_tab t (by omega)
  · rw [sq_at (by omega) hw hl]; unfold sSq3 sSq2 sSq1; rw [updn (by omega), updn (by omega), updn (by omega)]; exact h3
  · rw [sq_at (by omega) hw hl]; unfold sSq3 sSq2 sSq1; rw [updn (by omega), updn (by omega), upds rfl, h4]; exact nI_1 o
theorem sq_w {S : pS} {w l m x t d o : Nat} (hw : w < 8) (hl : l < 8) (hwl : w ≠ l) (h : hRow S w m x t d o) : hRow (sSq S w l) w m x (t - 1) d o := by
  obtain ⟨h0, h1, h2, h3, h4, km, kx, kt, kd⟩ := h
  refine ⟨?_, ?_, ?_, ?_, ?_, km, kx, by omega, kd⟩
  · rw [sq_at (by omega) hw hl]; unfold sSq3 sSq2 sSq1; rw [updn (by omega), updn (by omega), updn (by omega)]; exact h0
  · rw [sq_at (by omega) hw hl]; unfold sSq3 sSq2 sSq1; rw [updn (by omega), updn (by omega), updn (by omega)]; exact h1
  · rw [sq_at (by omega) hw hl]; unfold sSq3 sSq2 sSq1; rw [upds rfl, updn (by omega), updn (by omega), h2]; exact jmax0_tab t (by omega)
  · rw [sq_at (by omega) hw hl]; unfold sSq3 sSq2 sSq1; rw [updn (by omega), updn (by omega), updn (by omega)]; exact h3
  · rw [sq_at (by omega) hw hl]; unfold sSq3 sSq2 sSq1; rw [updn (by omega), updn (by omega), updn (by omega)]; exact h4
theorem tuN_mono {b : Bool} {law m t : Nat} : tuN b law m t ≤ tuN b law m (t - 1) := by
  have h : tbN law m t ≤ tbN law m (t - 1) := by
    unfold tbN
    split
    · exact Nat.le_refl _
    · split
      · exact Nat.le_refl _
      · split <;> omega
  unfold tuN
  split <;> omega
/-- all but the loser's turns -/
def IX (S : pS) (n q l : Nat) : Prop := pSh S n q ∧ nOK S ∧ (∃ law, S 203 = nI law ∧ law ≤ 3) ∧ (∀ i, i < 8 → hOK S i) ∧ (∀ j, j < q → S (50 + j) ≠ nI l → 1 ≤ pLeft S (cN (S (50 + j)))) ∧ (∃ x, S 205 = nI x ∧ x ≤ 50)
theorem IX_quar {S M : pS} {n q w l : Nat} (h : IA S n q) (hw : w < 8) (hl : l < 8) (hwl : w ≠ l) (hp : 1 ≤ pLeft S l) : IX (oQuarrel (S, M) w l).1 n q l ∧ (∀ i, i < 8 → i ≠ l → 1 ≤ pLeft S i → 1 ≤ pLeft (oQuarrel (S, M) w l).1 i) ∧ (∀ j, j < 8 → (oQuarrel (S, M) w l).1 (50 + j) = S (50 + j)) := by
  obtain ⟨hS, hN, ⟨law, hlw, hl3⟩, hH, hP, ⟨x, ex, hx⟩⟩ := h
  obtain ⟨b, hb⟩ := bI_of hS.2.2.2.2.2.2.1
  have hn := hS.2.1
  have hq := hS.2.2.2.1
  have off : ∀ i, ((49 ≤ i ∧ i < 58) ∨ (203 ≤ i ∧ i ≠ 213) ∨ i = 0) → (oQuarrel (S, M) w l).1 i = S i := fun i hi => qu_off hN.2 hw hl hi
  have toSq : ∀ i, i < 122 → (oQuarrel (S, M) w l).1 i = sSq S w l i := fun i hi => by
    show sNote (sSq S w l) _ _ _ i = _
    exact sNote_off (by rw [sSq_off hw hl (by omega)]; exact hN.2) (by omega)
  have rowT : ∀ {i m x t d o : Nat}, i < 8 → hRow (sSq S w l) i m x t d o → hRow (oQuarrel (S, M) w l).1 i m x t d o := fun {i m x t d o} hi h => by
    obtain ⟨h0, h1, h2, h3, h4, h5⟩ := h
    exact ⟨by rw [toSq _ (by omega)]; exact h0, by rw [toSq _ (by omega)]; exact h1, by rw [toSq _ (by omega)]; exact h2, by rw [toSq _ (by omega)]; exact h3, by rw [toSq _ (by omega)]; exact h4, h5⟩
  have hlawT : (oQuarrel (S, M) w l).1 203 = nI law := by rw [off 203 (by omega)]; exact hlw
  have hbT : (oQuarrel (S, M) w l).1 207 = bI b := by rw [off 207 (by omega)]; exact hb
  have hHT : ∀ i, i < 8 → hOK (oQuarrel (S, M) w l).1 i := fun i hi => by
    by_cases c : i = l
    · subst c
      obtain ⟨m, x, t, d, o, hr⟩ := hH i hi
      have e := left_n hr hlw hl3 hb
      rw [e] at hp
      have km := hr.2.2.2.2.2.1
      have := tuN_le (b := b) (law := law) (t := t) km
      have h1 := (nI_le1 (by omega)).mp hp
      exact ⟨m, x, _, d, o + 1, rowT hi (sq_l hw hi hwl hr (by omega))⟩
    · by_cases c2 : i = w
      · subst c2
        obtain ⟨m, x, t, d, o, hr⟩ := hH i hi
        exact ⟨m, x, _, d, o, rowT hi (sq_w hi hl hwl hr)⟩
      · exact hOK_loc (fun k hk => by rw [toSq _ (by omega)]; exact sq_o hi hw hl c2 c hk) (hH i hi)
  have hleft : ∀ i, i < 8 → i ≠ l → 1 ≤ pLeft S i → 1 ≤ pLeft (oQuarrel (S, M) w l).1 i := fun i hi hil h => by
    by_cases c2 : i = w
    · subst c2
      obtain ⟨m, x, t, d, o, hr⟩ := hH i hi
      have km := hr.2.2.2.2.2.1
      have b1 := tuN_le (b := b) (law := law) (t := t) km
      have b2 := tuN_le (b := b) (law := law) (t := t - 1) km
      have b3 := tuN_mono (b := b) (law := law) (m := m) (t := t)
      rw [left_n hr hlw hl3 hb] at h
      rw [left_n (rowT hi (sq_w hi hl hwl hr)) hlawT hl3 hbT]
      have h1 := (nI_le1 (by omega)).mp h
      exact (nI_le1 (by omega)).mpr (by omega)
    · rw [pLeft_loc (S := S) (fun k hk => by rw [toSq _ (by omega)]; exact sq_o hi hw hl c2 hil hk) (off 203 (by omega)) (off 207 (by omega))]
      exact h
  refine ⟨⟨pSh_quarrel hS hN.2 hw hl, nOK_qu hN hw hl, ⟨law, hlawT, hl3⟩, hHT, fun j hj hne => ?_, ⟨x, by rw [off 205 (by omega)]; exact ex, hx⟩⟩, hleft, fun j hj => off _ (by omega)⟩
  obtain ⟨i, hi, ei⟩ := hS.2.2.2.2.1 j hj
  have h1 := hP j hj
  rw [off (50 + j) (by omega), ei] at hne ⊢
  rw [ei, cN_nI (by omega)] at h1
  rw [cN_nI (by omega)]
  exact hleft i (by omega) (fun e => hne (by rw [e])) h1
theorem IX_IA {S : pS} {n q l : Nat} (h : IX S n q l) (hno : ∀ j, j < q → S (50 + j) ≠ nI l) : IA S n q := by
  obtain ⟨h1, h2, h3, h4, h5, h6⟩ := h
  exact ⟨h1, h2, h3, h4, fun j hj => h5 j hj (hno j hj), h6⟩
/-- the last one goes -/
theorem IX_last {S : pS} {n q l : Nat} (h : IX S n (q + 1) l) (hl : S (50 + q) = nI l) : IA (upd S 49 (nI q)) n q := by
  obtain ⟨h1, h2, h3, h4, h5, ⟨x, ex, hx⟩⟩ := h
  have hq := h1.2.2.2.1
  have hn := h1.2.1
  have hg := pSh_go h1 (show q < q + 1 by omega)
  rw [sGo_last, Nat.add_sub_cancel] at hg
  refine ⟨hg, nOK_ext h2 (updn (by omega)), by rw [updn (by omega)]; exact h3, fun i hi => hOK_loc (fun k hk => updn (by omega)) (h4 i hi), fun j hj => ?_, ⟨x, by rw [updn (by omega)]; exact ex, hx⟩⟩
  have hne : S (50 + j) ≠ nI l := fun e => by
    have := h1.2.2.2.2.2.1 j q (by omega) (by omega) (by rw [e, hl])
    omega
  obtain ⟨i, hi, ei⟩ := h1.2.2.2.2.1 j (by omega)
  have a := h5 j (by omega) hne
  rw [updn (by omega), ei, cN_nI (by omega), pLeft_loc (S := S) (fun k hk => updn (by omega)) (updn (by omega)) (updn (by omega))]
  rw [ei, cN_nI (by omega)] at a
  exact a
theorem IA_join {n i : Nat} : ∀ (q : Nat) (S M : pS), IA S n q → i < n → (∀ j, j < q → S (50 + j) ≠ nI i) → 1 ≤ pLeft S i → ∃ q', IA (oJL n i q (S, M)).2.1 n q'
  | 0, S, M, h, hi, hno, hp => ⟨1, IA_come h hi hno hp⟩
  | q + 1, S, M, h, hi, hno, hp => by
    have hn := h.1.2.1
    obtain ⟨z, hz, ez⟩ := h.1.2.2.2.2.1 q (by omega)
    have hzi : z ≠ i := fun e => hno q (by omega) (by rw [ez, e])
    have hzp : 1 ≤ pLeft S z := by
      have := h.2.2.2.2.1 q (by omega)
      rw [ez, cN_nI (by omega)] at this
      exact this
    show ∃ q', IA (if pDoQ S (cN (S (50 + q))) i = true then (if pWin S n (cN (S (50 + q))) i = i then oJL n i q (upd (oQuarrel (S, M) i (cN (S (50 + q)))).1 49 (nI q), (oQuarrel (S, M) i (cN (S (50 + q)))).2) else (-1, oQuarrel (S, M) (cN (S (50 + q))) i)) else (nI (q + 1), (sCome S (q + 1) i, M))).2.1 n q'
    rw [ez, cN_nI (by omega)]
    by_cases c : pDoQ S z i = true
    · rw [if_pos c]
      by_cases c2 : pWin S n z i = i
      · rw [if_pos c2]
        obtain ⟨a1, a2, a3⟩ := IX_quar (M := M) h (w := i) (l := z) (by omega) (by omega) (fun e => hzi e.symm) hzp
        have hq8 := h.1.2.2.2.1
        refine IA_join q _ _ (IX_last a1 (by rw [a3 q (by omega)]; exact ez)) hi (fun j hj => ?_) ?_
        · rw [updn (by omega), a3 j (by omega)]; exact hno j (by omega)
        · rw [pLeft_loc (S := (oQuarrel (S, M) i z).1) (fun k hk => updn (by omega)) (updn (by omega)) (updn (by omega))]
          exact a2 i (by omega) (fun e => hzi e.symm) hp
      · rw [if_neg c2]
        obtain ⟨a1, a2, a3⟩ := IX_quar (M := M) h (w := z) (l := i) (by omega) (by omega) hzi hp
        have hq8 := h.1.2.2.2.1
        exact ⟨q + 1, IX_IA a1 fun j hj => by rw [a3 j (by omega)]; exact hno j hj⟩
    · rw [if_neg c]
      exact ⟨q + 2, IA_come h hi hno hp⟩
