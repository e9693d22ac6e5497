/-! ===== what every change keeps ===== -/
def tbN (law m t : Nat) : Nat := if law = 0 then (m + 1) / 2 else if law = 1 then 3 else if law = 2 then 4 - t / 3 else 1
def tuN (b : Bool) (law m t : Nat) : Nat := if b = true then (tbN law m t + 1) / 2 else tbN law m t
theorem tbN_tab : ∀ law, law < 4 → ∀ m, m < 10 → ∀ t, t < 10 → (if nI law = 0 then (nI m + 1) / 2 else if nI law = 1 then 3 else if nI law = 2 then 4 - nI t / 3 else (1 : Int32)) = nI (tbN law m t) := by decide +kernel
theorem tbN_le {law m t : Nat} (hm : m ≤ 9) : tbN law m t ≤ 5 := by
  unfold tbN
  split
  · omega
  · split
    · omega
    · split <;> omega
theorem tuN_tab : ∀ k, k < 6 → (nI k + 1) / 2 = nI ((k + 1) / 2) := by decide +kernel
theorem lf_tab : ∀ T, T < 6 → ∀ d, d < 6 → ∀ l, l < 6 → jmax 0 (nI T - nI d - nI l) = nI (T - d - l) := by decide +kernel
theorem tuN_le {b : Bool} {law m t : Nat} (hm : m ≤ 9) : tuN b law m t ≤ 5 := by
  have := tbN_le (law := law) (t := t) hm
  unfold tuN
  split <;> omega
/-- a household's numbers -/
def hRow (S : pS) (i m x t d l : Nat) : Prop := S (1 + 6 * i + 0) = nI m ∧ S (1 + 6 * i + 1) = nI x ∧ S (1 + 6 * i + 2) = nI t ∧ S (1 + 6 * i + 3) = nI d ∧ S (1 + 6 * i + 4) = nI l ∧ m ≤ 9 ∧ x ≤ 19 ∧ t ≤ 9 ∧ d + l ≤ 5
def hOK (S : pS) (i : Nat) : Prop := ∃ m x t d l, hRow S i m x t d l
theorem left_n {S : pS} {i m x t d l law : Nat} {b : Bool} (h : hRow S i m x t d l) (hl : S 203 = nI law) (hl3 : law ≤ 3) (hb : S 207 = bI b) : pLeft S i = nI (tuN b law m t - d - l) := by
  obtain ⟨h0, h1, h2, h3, h4, km, kx, kt, kd⟩ := h
  have e1 : pTbl S i (S 203) = nI (tbN law m t) := by
    rw [pTbl, hl, h0, h2]
    exact tbN_tab law (by omega) m (by omega) t (by omega)
  have e2 : pTurns S i = nI (tuN b law m t) := by
    rw [pTurns, e1, hb, tuN]
    cases b
    · rw [if_neg (by decide), if_neg (by decide)]
    · rw [if_pos (by decide), if_pos rfl]
      exact tuN_tab _ (Nat.lt_succ_of_le (tbN_le km))
  rw [pLeft, e2, h3, h4]
  exact lf_tab _ (Nat.lt_succ_of_le (tuN_le km)) d (by omega) l (by omega)
theorem pLeft_loc {S T : pS} {i : Nat} (e : ∀ k, k < 5 → T (1 + 6 * i + k) = S (1 + 6 * i + k)) (h1 : T 203 = S 203) (h2 : T 207 = S 207) : pLeft T i = pLeft S i := by
  unfold pLeft pTurns pTbl
  rw [e 0 (by omega), e 2 (by omega), e 3 (by omega), e 4 (by omega), h1, h2]
theorem hOK_loc {S T : pS} {i : Nat} (e : ∀ k, k < 5 → T (1 + 6 * i + k) = S (1 + 6 * i + k)) (h : hOK S i) : hOK T i := by
  obtain ⟨m, x, t, d, l, h0, h1, h2, h3, h4, h5⟩ := h
  exact ⟨m, x, t, d, l, by rw [e 0 (by omega)]; exact h0, by rw [e 1 (by omega)]; exact h1, by rw [e 2 (by omega)]; exact h2, by rw [e 3 (by omega)]; exact h3, by rw [e 4 (by omega)]; exact h4, h5⟩
/-- a state's numbers, of n households, q in the queue -/
def IA (S : pS) (n q : Nat) : Prop := pSh S n q ∧ nOK S ∧ (∃ law, S 203 = nI law ∧ law ≤ 3) ∧ (∀ i, i < 8 → hOK S i) ∧ PL S q ∧ (∃ x, S 205 = nI x ∧ x ≤ 50)
theorem bI_of {v : Int32} (h : v = 0 ∨ v = 1) : ∃ b : Bool, v = bI b := by
  rcases h with rfl | rfl
  · exact ⟨false, rfl⟩
  · exact ⟨true, rfl⟩
theorem nI_le1 {k : Nat} (hk : k ≤ 100) : 1 ≤ nI k ↔ 1 ≤ k := nI_leI (a := 1) (b := k) (by omega) (by omega)
/-- a change that leaves the lane, the queue and the law -/
theorem IA_ext {S T : pS} {n q : Nat} (h : IA S n q) (e : ∀ i, (i < 58 ∨ i = 203 ∨ i = 207 ∨ i = 122) → T i = S i) (hw : ∃ x, T 205 = nI x ∧ x ≤ 50) : IA T n q := by
  obtain ⟨hS, hN, ⟨law, hl, hl3⟩, hH, hP, hx⟩ := h
  obtain ⟨x, ex, hx50⟩ := hw
  obtain ⟨s0, s1, s2, s3, s4, s5, s6, s7⟩ := hS
  refine ⟨⟨by rw [e 0 (by omega)]; exact s0, s1, by rw [e 49 (by omega)]; exact s2, s3, fun j hj => ?_, fun i j hi hj q => ?_, by rw [e 207 (by omega)]; exact s6, ?_⟩, nOK_ext hN (e 122 (by omega)), ⟨law, by rw [e 203 (by omega)]; exact hl, hl3⟩, fun i hi => hOK_loc (fun k hk => e _ (by omega)) (hH i hi), fun j hj => ?_, ⟨x, ex, hx50⟩⟩
  · rw [e (50 + j) (by omega)]; exact s4 j hj
  · rw [e (50 + i) (by omega), e (50 + j) (by omega)] at q; exact s5 i j hi hj q
  · rw [ex]
    have : ∀ x, x < 51 → jmin 50 (nI x) = nI x := by decide +kernel
    exact this x (by omega)
  · obtain ⟨i, hi, ei⟩ := s4 j hj
    rw [e (50 + j) (by omega), ei, cN_nI (by omega), pLeft_loc (fun k hk => e _ (by omega)) (e 203 (by omega)) (e 207 (by omega))]
    have := hP j hj
    rw [ei, cN_nI (by omega)] at this
    exact this
theorem IA_note {S : pS} {n q : Nat} (h : IA S n q) (k a b : Int32) : IA (sNote S k a b) n q := by
  have hN := h.2.1
  obtain ⟨x, ex, hx⟩ := h.2.2.2.2.2
  have key : ∀ i, (i < 122 ∨ 203 ≤ i) → sNote S k a b i = S i := fun i hi => sNote_off hN.2 hi
  have h2 := nOK_note hN k a b
  obtain ⟨hS, -, hl, hH, hP, -⟩ := h
  have hsh : pSh (sNote S k a b) n q := pSh_ext hS fun i hi => key i (by omega)
  refine ⟨hsh, h2, by rw [key 203 (by omega)]; exact hl, fun i hi => hOK_loc (fun k hk => key _ (by omega)) (hH i hi), fun j hj => ?_, ⟨x, by rw [key 205 (by omega)]; exact ex, hx⟩⟩
  obtain ⟨i, hi, ei⟩ := hS.2.2.2.2.1 j hj
  have hn := hS.2.1
  have := hP j hj
  have hq := hS.2.2.2.1
  rw [key (50 + j) (by omega), ei, cN_nI (by omega), pLeft_loc (fun k hk => key _ (by omega)) (key 203 (by omega)) (key 207 (by omega))]
  rw [ei, cN_nI (by omega)] at this
  exact this
/-! leaving the queue, coming to it -/
theorem IA_go {S : pS} {n q u : Nat} (h : IA S n q) (hu : u < q) : IA (sGo S q u) n (q - 1) := by
  obtain ⟨hS, hN, hl, hH, hP, ⟨x, ex, hx⟩⟩ := h
  have hq := hS.2.2.2.1
  have off : ∀ i, (i < 49 ∨ 58 ≤ i) → sGo S q u i = S i := fun i hi => sGo_off hq hi
  refine ⟨pSh_go hS hu, nOK_ext hN (off 122 (by omega)), by rw [off 203 (by omega)]; exact hl, fun i hi => hOK_loc (fun k hk => off _ (by omega)) (hH i hi), fun j hj => ?_, ⟨x, by rw [off 205 (by omega)]; exact ex, hx⟩⟩
  have hn := hS.2.1
  have step : ∀ j', j' < q → sGo S q u (50 + j) = S (50 + j') → 1 ≤ pLeft (sGo S q u) (cN (sGo S q u (50 + j))) := fun j' hj' e => by
    obtain ⟨i, hi, ei⟩ := hS.2.2.2.2.1 j' hj'
    have := hP j' hj'
    rw [e, ei, cN_nI (by omega), pLeft_loc (fun k hk => off _ (by omega)) (off 203 (by omega)) (off 207 (by omega))]
    rw [ei, cN_nI (by omega)] at this
    exact this
  by_cases c : 50 + u ≤ 50 + j
  · exact step (j + 1) (by omega) (by unfold sGo; rw [updn (by omega), if_pos (by omega)]; rfl)
  · exact step j (by omega) (by unfold sGo; rw [updn (by omega), if_neg (by omega)])
theorem IA_come {S : pS} {n q i : Nat} (h : IA S n q) (hi : i < n) (hnew : ∀ j, j < q → S (50 + j) ≠ nI i) (hp : 1 ≤ pLeft S i) : IA (sCome S q i) n (q + 1) := by
  obtain ⟨hS, hN, hl, hH, hP, ⟨x, ex, hx⟩⟩ := h
  have h8 := pSh_room hS hi hnew
  obtain ⟨s0, hn, s2, hq, s4, s5, s6, s7⟩ := hS
  have off : ∀ k, (k < 49 ∨ 58 ≤ k) → sCome S q i k = S k := fun k hk => sCome_off h8 hk
  have inq : ∀ j, j < q → sCome S q i (50 + j) = S (50 + j) := fun j hj => by
    unfold sCome
    rw [updn (by omega), updn (by omega)]
  have atq : sCome S q i (50 + q) = nI i := by
    unfold sCome
    rw [updn (by omega), upds rfl]
  have left : ∀ k, k < 8 → pLeft (sCome S q i) k = pLeft S k := fun k hk => pLeft_loc (fun _ _ => off _ (by omega)) (off 203 (by omega)) (off 207 (by omega))
  refine ⟨⟨by rw [off 0 (by omega)]; exact s0, hn, by unfold sCome; rw [upds rfl], by omega, fun j hj => ?_, fun a b ha hb e => ?_, by rw [off 207 (by omega)]; exact s6, by rw [off 205 (by omega)]; exact s7⟩, nOK_ext hN (off 122 (by omega)), by rw [off 203 (by omega)]; exact hl, fun k hk => hOK_loc (fun _ _ => off _ (by omega)) (hH k hk), fun j hj => ?_, ⟨x, by rw [off 205 (by omega)]; exact ex, hx⟩⟩
  · rcases Nat.lt_or_ge j q with c | c
    · rw [inq j c]; exact s4 j c
    · rw [show j = q by omega, atq]; exact ⟨i, hi, rfl⟩
  · rcases Nat.lt_or_ge a q with ca | ca
    · rcases Nat.lt_or_ge b q with cb | cb
      · rw [inq a ca, inq b cb] at e; exact s5 a b ca cb e
      · rw [inq a ca, show b = q by omega, atq] at e; exact absurd e (hnew a ca)
    · rcases Nat.lt_or_ge b q with cb | cb
      · rw [inq b cb, show a = q by omega, atq] at e; exact absurd e.symm (hnew b cb)
      · omega
  · rcases Nat.lt_or_ge j q with c | c
    · obtain ⟨k, hk, ek⟩ := s4 j c
      have := hP j c
      rw [inq j c, ek, cN_nI (by omega), left k (by omega)]
      rw [ek, cN_nI (by omega)] at this
      exact this
    · rw [show j = q by omega, atq, cN_nI (by omega), left i (by omega)]
      exact hp
