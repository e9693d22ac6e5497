/-! ===== what the state's methods need ===== -/
/-- the shape of a state: n households, q that wait, all of them households, no one twice; drought, wear -/
def pSh (S : pS) (n q : Nat) : Prop := S 0 = nI n ∧ n ≤ 8 ∧ S 49 = nI q ∧ q ≤ 8 ∧ (∀ j, j < q → ∃ i, i < n ∧ S (50 + j) = nI i) ∧ (∀ i j, i < q → j < q → S (50 + i) = S (50 + j) → i = j) ∧ (S 207 = 0 ∨ S 207 = 1) ∧ jmin 50 (S 205) = S 205
def mOK (M : pS) (x : Nat) : Prop := M 1 = nI x ∧ x < 20
theorem pSh_c {S : pS} {n q j : Nat} (h : pSh S n q) (hj : j < q) : S (50 + j) = nI (cN (S (50 + j))) ∧ cN (S (50 + j)) < n := by
  obtain ⟨-, hn, -, -, he, -⟩ := h
  obtain ⟨i, hi, e⟩ := he j hj
  rw [e, cN_nI (by omega)]
  exact ⟨rfl, hi⟩
theorem pSh_ext {S T : pS} {n q : Nat} (h : pSh S n q) (e : ∀ i, (i = 0 ∨ (49 ≤ i ∧ i < 58) ∨ i = 205 ∨ i = 207) → T i = S i) : pSh T n q := by
  obtain ⟨h0, hn, h1, hq, he, hd, hr, hw⟩ := h
  refine ⟨by rw [e 0 (by omega)]; exact h0, hn, by rw [e 49 (by omega)]; exact h1, hq, fun j hj => ?_, fun i j hi hj q => ?_, by rw [e 207 (by omega)]; exact hr, by rw [e 205 (by omega)]; exact hw⟩
  · rw [e (50 + j) (by omega)]; exact he j hj
  · rw [e (50 + i) (by omega), e (50 + j) (by omega)] at q; exact hd i j hi hj q
theorem mOK_n {M : pS} {x : Nat} (h : mOK M x) (k d a b : Int32) : mOK (mNote M k d a b) ((x + 1) % 20) := by
  refine ⟨?_, Nat.mod_lt _ (by omega)⟩
  rw [mNote_x h.1 h.2, updn (by omega), upds rfl]
theorem w5 {b1 b2 b3 b4 b5 c1 c2 c3 c4 c5 : va_W} (h1 : b1 = c1) (h2 : b2 = c2) (h3 : b3 = c3) (h4 : b4 = c4) (h5 : b5 = c5) : [b1, b2, b3, b4, b5] = [c1, c2, c3, c4, c5] := by rw [h1, h2, h3, h4, h5]
theorem pTurns_0 {S : pS} {i : Nat} (h : S 207 = 0) : pTbl S i (S 203) = pTurns S i := by
  rw [pTurns, if_neg (by rw [h]; decide)]
theorem pTurns_1 {S : pS} {i : Nat} (h : ¬ S 207 = 0) (hr : S 207 = 0 ∨ S 207 = 1) : (pTbl S i (S 203) + 1) / 2 = pTurns S i := by
  rw [pTurns, if_pos (hr.resolve_left h)]
theorem sPut_off {S : pS} {t i : Nat} {k d a b : Int32} (ht : t < 20) (h : i < 122 ∨ 203 ≤ i) : sPut S t k d a b i = S i := by
  unfold sPut
  rw [updn (by omega), updn (by omega), updn (by omega), updn (by omega), updn (by omega)]
theorem sShift_off {S : pS} {i : Nat} (h : i < 123 ∨ 199 ≤ i) : sShift S i = S i := by
  unfold sShift
  rw [if_neg (by omega)]
theorem sNote_off {S : pS} {i : Nat} {k a b : Int32} (ht : cN (S 122) ≤ 20) (h : i < 122 ∨ 203 ≤ i) : sNote S k a b i = S i := by
  unfold sNote
  split
  · rw [sPut_off (by omega) h, sShift_off (by omega)]
  · rw [sPut_off (by omega) h]
theorem sSq_off {S : pS} {w l i : Nat} (hw : w < 8) (hl : l < 8) (h : (49 ≤ i ∧ i < 58) ∨ (122 ≤ i ∧ i ≠ 213) ∨ i = 0) : sSq S w l i = S i := by
  unfold sSq sSq5 sSq4 sSq3 sSq2 sSq1
  rw [updn (by omega), updn (by omega), updn (by omega), updn (by omega), updn (by omega)]
theorem sCome_off {S : pS} {q h i : Nat} (hq : q < 8) (hi : i < 49 ∨ 58 ≤ i) : sCome S q h i = S i := by
  unfold sCome
  rw [updn (by omega), updn (by omega)]
theorem sGo_off {S : pS} {q p i : Nat} (hq : q ≤ 8) (hi : i < 49 ∨ 58 ≤ i) : sGo S q p i = S i := by
  unfold sGo
  rw [updn (by omega), if_neg (by omega)]
theorem sPump_off {S : pS} {i : Nat} (h : i ≠ 204 ∧ i ≠ 205 ∧ i ≠ 210 ∧ i ≠ 212) : sPump S i = S i := by
  unfold sPump
  rw [updn (by omega), updn (by omega), updn (by omega), updn (by omega)]
theorem sFetch_off {S : pS} {h i : Nat} {w : Int32} (hi : i ≠ 1 + 6 * h + 3 ∧ i ≠ 1 + 6 * h + 5) : sFetch S h w i = S i := by
  unfold sFetch
  rw [updn hi.2, updn hi.1]
theorem sGo_last {S : pS} {q : Nat} : sGo S (q + 1) q = upd S 49 (nI q) := by
  funext i
  unfold sGo upd
  try dsimp only
  by_cases h : i = 49
  · rw [if_pos h, if_pos h]; rfl
  · rw [if_neg h, if_neg h, if_neg (by omega)]
theorem wJoin_e {S : pS} {n q : Nat} (hI : pSh S n q) (h : Int32) : wJoin S h = if pHas h n = true then (if pPl S h q = -1 then (if pLeft S (cN h) = 0 then (6, S (1 + 6 * cN h + 3)) else (0, 0)) else (4, pPl S h q)) else (3, h) := by
  unfold wJoin
  rw [hI.1, hI.2.2.1, cN_nI (by have := hI.2.1; omega), cN_nI (by have := hI.2.2.2.1; omega)]
theorem wLeave_e {S : pS} {n q : Nat} (hI : pSh S n q) (h : Int32) : wLeave S h = if pHas h n = true then (if pPl S h q = -1 then (5, 0) else (0, 0)) else (3, h) := by
  unfold wLeave
  rw [hI.1, hI.2.2.1, cN_nI (by have := hI.2.1; omega), cN_nI (by have := hI.2.2.2.1; omega)]
theorem wDraw_e {S : pS} {n q : Nat} (hI : pSh S n q) (v : Int32) : wDraw S v = if pIn v 1 50 = true then (if pAll S q < v then (7, pAll S q) else if S 204 < pBrings S (cN v) then (8, S 204) else (0, 0)) else (1, 0) := by
  unfold wDraw
  rw [hI.2.2.1, cN_nI (by have := hI.2.2.2.1; omega)]
/-- the refusal behind a question: kept if it was refused -/
def rfW (r : Nat) (W : Int32 × Int32) (f0 f1 f2 f3 : Int32) : va_W := if W.1 = 0 then rfB r f0 f1 f2 f3 else rfB r W.1 W.2 f3 f3
theorem rfW_0 {r : Nat} {W : Int32 × Int32} {f0 f1 f2 f3 : Int32} (h : W = (0, 0)) : rfB r f0 f1 f2 f3 = rfW r W f0 f1 f2 f3 := by
  rw [h]; rfl
theorem rfW_1 {r : Nat} {W : Int32 × Int32} {f0 f1 f2 f3 a b : Int32} (h : W = (a, b)) (ha : ¬ a = 0) : rfB r a b f3 f3 = rfW r W f0 f1 f2 f3 := by
  rw [h, rfW, if_neg ha]
/-- whether something is refused -/
def wB (W : Int32 × Int32) : Bool := decide (¬ W.1 = 0)
theorem wB_0 {W : Int32 × Int32} (h : W = (0, 0)) : 0 = bI (wB W) := by rw [h]; rfl
theorem wB_1 {W : Int32 × Int32} {a b : Int32} (h : W = (a, b)) (ha : ¬ a = 0) : 1 = bI (wB W) := by rw [h, wB, decide_eq_true ha]; rfl
theorem bt_n {b : Bool} (h : b = false) : ¬ b = true := by rw [h]; decide
theorem pIn_nat {v : Int32} {k : Nat} (hk : k < 2 ^ 31) (h : pIn v 1 (nI k) = true) : ∃ j : Nat, 1 ≤ j ∧ j ≤ k ∧ v = nI j := by
  simp only [pIn, Bool.and_eq_true, decide_eq_true_eq] at h
  obtain ⟨j, hj, rfl⟩ := nI_of (x := v) (fun q => by
    have h1 : (1 : Int32) < 0 := Int32.lt_of_le_of_lt h.1 q
    exact absurd h1 (by decide))
  refine ⟨j, (nI_leI (a := 1) (b := j) (by omega) hj).mp h.1, (nI_leI hj hk).mp h.2, rfl⟩
/-! frames of the whole changes -/
theorem qu_off {S M : pS} {w l i : Nat} (ht : cN (S 122) ≤ 20) (hw : w < 8) (hl : l < 8) (h : (49 ≤ i ∧ i < 58) ∨ (203 ≤ i ∧ i ≠ 213) ∨ i = 0) : (oQuarrel (S, M) w l).1 i = S i := by
  show sNote (sSq S w l) _ _ _ i = _
  rw [sNote_off (by rw [sSq_off hw hl (by omega)]; exact ht) (by omega), sSq_off hw hl (by omega)]
theorem qu_ln {ty : Nat → ClassId} {a : Nat → Nat} {S M : pS} {w l : Nat} (ht : cN (S 122) ≤ 20) (hw : w < 8) (hl : l < 8) : lnB ty a (sSq S w l) = lnB ty a (oQuarrel (S, M) w l).1 :=
  lnB_ext fun i hi => (sNote_off (S := sSq S w l) (by rw [sSq_off hw hl (by omega)]; exact ht) (by omega)).symm
theorem qu_mi {S M : pS} {w l : Nat} (hw : w < 8) (hl : l < 8) : mNote M 1 (S 206) (nI w) (nI l) = (oQuarrel (S, M) w l).2 := by
  show _ = mNote M 1 (sSq S w l 206) (nI w) (nI l)
  rw [sSq_off hw hl (by omega)]
theorem jl_0 {q : Nat} (hq : q ≤ 8) (h : nI q - 1 < 0) : q = 0 := by
  have : q = 0 ∨ q = 1 ∨ q = 2 ∨ q = 3 ∨ q = 4 ∨ q = 5 ∨ q = 6 ∨ q = 7 ∨ q = 8 := by omega
  rcases this with rfl | rfl | rfl | rfl | rfl | rfl | rfl | rfl | rfl <;> first | rfl | (exact absurd h (by decide))
theorem jl_1 {q : Nat} (hq : q ≤ 8) (h : ¬ nI q - 1 < 0) : 0 < q := by
  rcases Nat.eq_zero_or_pos q with rfl | h2
  · exact absurd (by decide) h
  · exact h2
theorem jl_dec {q : Nat} (h : 0 < q) : nI (q - 1) + Int32.ofInt (-1) = nI (q - 1) - 1 := by
  rw [show Int32.ofInt (-1) = -1 from by decide, Int32.sub_eq_add_neg]
/-! nights -/
theorem sClear_off {S : pS} {n i : Nat} (hn : n ≤ 8) (h : i = 0 ∨ 49 ≤ i) : sClear n S i = S i := by
  unfold sClear
  rw [if_neg (by omega)]
theorem sRain_off {S : pS} {i : Nat} (h : i ≠ 214 ∧ i ≠ 204 ∧ i ≠ 211 ∧ i ≠ 206 ∧ i ≠ 207) : sRain S i = S i := by
  unfold sRain
  rw [updn (by omega), updn (by omega), updn (by omega), updn (by omega), updn (by omega)]
theorem rain_we {a : Nat → Nat} {T U : pS} (h : ∀ i, 203 ≤ i → U i = T i) : weB a (sRain T) = weB a (sRain U) := by
  have p : pRain U = pRain T := by unfold pRain; rw [h 204 (by omega), h 208 (by omega)]
  refine weB_ext fun i hi => ?_
  unfold sRain
  rw [p, h 214 (by omega), h 208 (by omega), h 211 (by omega), h 206 (by omega)]
  unfold upd
  by_cases h1 : i = 207
  · rw [if_pos h1, if_pos h1]
  · rw [if_neg h1, if_neg h1]
    by_cases h2 : i = 206
    · rw [if_pos h2, if_pos h2]
    · rw [if_neg h2, if_neg h2]
      by_cases h3 : i = 211
      · rw [if_pos h3, if_pos h3]
      · rw [if_neg h3, if_neg h3]
        by_cases h4 : i = 204
        · rw [if_pos h4, if_pos h4]
        · rw [if_neg h4, if_neg h4]
          by_cases h5 : i = 214
          · rw [if_pos h5, if_pos h5]
          · rw [if_neg h5, if_neg h5, h i (by omega)]
theorem night_we {a : Nat → Nat} {S : pS} {n : Nat} (hn : n ≤ 8) (k : Nat) : weB a (sRain (sNightN n k S)) = weB a (sNightN n (k + 1) S) :=
  rain_we fun i hi => by rw [sClear_off hn (by omega), updn (by omega)]
theorem night_day {S : pS} {n : Nat} (hn : n ≤ 8) : ∀ k : Nat, sNightN n k S 206 = S 206 + nI k
  | 0 => by show S 206 = _; rw [nI_0]; simp
  | k + 1 => by
    show sRain (sClear n (upd (sNightN n k S) 49 0)) 206 = _
    have e : sRain (sClear n (upd (sNightN n k S) 49 0)) 206 = sClear n (upd (sNightN n k S) 49 0) 206 + 1 := rfl
    rw [e, sClear_off hn (by omega), updn (by omega), night_day hn k, nI_succ, Int32.add_assoc]
theorem night_off {S : pS} {n i : Nat} (hn : n ≤ 8) (h : (50 ≤ i ∧ i < 204) ∨ i = 205 ∨ i = 208 ∨ i = 209 ∨ i = 210 ∨ i = 212 ∨ i = 213 ∨ i = 0) : ∀ k : Nat, sNightN n k S i = S i
  | 0 => rfl
  | k + 1 => by
    show sRain (sClear n (upd (sNightN n k S) 49 0)) i = _
    rw [sRain_off (by omega), sClear_off hn (by omega), updn (by omega), night_off hn h k]
theorem night_q {S : pS} {n k : Nat} (hn : n ≤ 8) : sNightN n (k + 1) S 49 = 0 := by
  show sRain (sClear n (upd (sNightN n k S) 49 0)) 49 = _
  rw [sRain_off (by omega), sClear_off hn (by omega), upds rfl]
theorem night_ln {S : pS} {n i : Nat} (hn : n ≤ 8) (hi : i < 49) : ∀ k : Nat, sNightN n (k + 1) S i = sClear n S i
  | 0 => by
    show sRain (sClear n (upd S 49 0)) i = _
    rw [sRain_off (by omega)]
    unfold sClear
    rw [updn (by omega)]
  | k + 1 => by
    show sRain (sClear n (upd (sNightN n (k + 1) S) 49 0)) i = _
    rw [sRain_off (by omega)]
    have h := night_ln (S := S) hn hi k
    unfold sClear at h ⊢
    rw [updn (by omega), h]
    split <;> rfl
theorem night_w5 {ty : Nat → ClassId} {a : Nat → Nat} {S M : pS} {n k : Nat} (hn : n ≤ 8) (hk : 0 < k) : [stB a (upd S 206 (S 206 + nI k)), lnB ty a (sClear n S), quB ty a (upd S 49 0), weB a (sNightN n k S), miB ty a M] = [stB a (sNightN n k S), lnB ty a (sNightN n k S), quB ty a (sNightN n k S), weB a (sNightN n k S), miB ty a M] := by
  obtain ⟨j, rfl⟩ : ∃ j, k = j + 1 := ⟨k - 1, by omega⟩
  refine w5 (stB_ext ?_ ?_ ?_) (lnB_ext fun i hi => ?_) (quB_ext fun i h1 h2 => ?_) rfl rfl
  · rw [upds rfl, night_day hn]
  · rw [updn (by omega), night_off hn (by omega)]
  · rw [updn (by omega), night_off hn (by omega)]
  · by_cases h : i < 49
    · exact (night_ln hn h j).symm
    · rw [sClear_off hn (by omega), night_off hn (by omega)]
  · by_cases h : i = 49
    · rw [h, upds rfl, night_q hn]
    · rw [updn h, night_off hn (by omega)]
/-! leather, leaving, votes, draws -/
theorem renew_w5 {ty : Nat → ClassId} {a : Nat → Nat} {S M : pS} (ht : cN (S 122) ≤ 20) : [stB a (upd S 209 (S 209 - 20)), lnB ty a S, quB ty a S, weB a (upd S 205 0), miB ty a (mNote M 3 (S 206) 0 0)] = [stB a (oRenew (S, M)).2.1, lnB ty a (oRenew (S, M)).2.1, quB ty a (oRenew (S, M)).2.1, weB a (oRenew (S, M)).2.1, miB ty a (oRenew (S, M)).2.2] := by
  have off : ∀ i, (i < 122 ∨ 203 ≤ i) → (oRenew (S, M)).2.1 i = upd (upd S 209 (S 209 - 20)) 205 0 i := fun i hi => sNote_off (show cN (upd (upd S 209 (S 209 - 20)) 205 0 122) ≤ 20 by rw [updn (by omega), updn (by omega)]; exact ht) hi
  refine w5 (stB_ext ?_ ?_ ?_) (lnB_ext fun i hi => ?_) (quB_ext fun i h1 h2 => ?_) (weB_ext fun i hi => ?_) ?_
  · rw [off _ (by omega)]; rfl
  · rw [off _ (by omega)]; rfl
  · rw [off _ (by omega)]; rfl
  · rw [off _ (by omega), updn (by omega), updn (by omega)]
  · rw [off _ (by omega), updn (by omega), updn (by omega)]
  · rw [off _ (by omega)]
    by_cases h : i = 205
    · rw [h]; rfl
    · rw [updn h, updn h, updn (by omega)]
  · rfl
theorem go_w5 {ty : Nat → ClassId} {a : Nat → Nat} {S M : pS} {q p : Nat} (hq : q ≤ 8) : [stB a S, lnB ty a S, quB ty a (sGo S q p), weB a S, miB ty a M] = [stB a (sGo S q p), lnB ty a (sGo S q p), quB ty a (sGo S q p), weB a (sGo S q p), miB ty a M] :=
  w5 (stB_ext (sGo_off hq (by omega)).symm (sGo_off hq (by omega)).symm (sGo_off hq (by omega)).symm) (lnB_ext fun i hi => (sGo_off hq (by omega)).symm) rfl (weB_ext fun i hi => (sGo_off hq (by omega)).symm) rfl
theorem come_w5 {ty : Nat → ClassId} {a : Nat → Nat} {S M : pS} {q p : Nat} (hq : q < 8) : [stB a S, lnB ty a S, quB ty a (sCome S q p), weB a S, miB ty a M] = [stB a (sCome S q p), lnB ty a (sCome S q p), quB ty a (sCome S q p), weB a (sCome S q p), miB ty a M] :=
  w5 (stB_ext (sCome_off hq (by omega)).symm (sCome_off hq (by omega)).symm (sCome_off hq (by omega)).symm) (lnB_ext fun i hi => (sCome_off hq (by omega)).symm) rfl (weB_ext fun i hi => (sCome_off hq (by omega)).symm) rfl
theorem quarrel_w5 {ty : Nat → ClassId} {a : Nat → Nat} {S M : pS} {w l : Nat} (ht : cN (S 122) ≤ 20) (hw : w < 8) (hl : l < 8) : [stB a S, lnB ty a (sSq S w l), quB ty a S, weB a S, miB ty a (mNote M 1 (S 206) (nI w) (nI l))] = [stB a (oQuarrel (S, M) w l).1, lnB ty a (oQuarrel (S, M) w l).1, quB ty a (oQuarrel (S, M) w l).1, weB a (oQuarrel (S, M) w l).1, miB ty a (oQuarrel (S, M) w l).2] :=
  w5 (stB_ext (qu_off ht hw hl (by omega)).symm (qu_off ht hw hl (by omega)).symm (qu_off ht hw hl (by omega)).symm) (qu_ln ht hw hl) (quB_ext fun i h1 h2 => (qu_off ht hw hl (by omega)).symm) (weB_ext fun i hi => (qu_off ht hw hl (by omega)).symm) (by rw [qu_mi hw hl])
/-- a queue out of which a place was taken -/
theorem pSh_go {S : pS} {n q p : Nat} (h : pSh S n q) (hp : p < q) : pSh (sGo S q p) n (q - 1) := by
  obtain ⟨h0, hn, h1, hq, he, hd, hr, hw⟩ := h
  have at' : ∀ j, j < q - 1 → sGo S q p (50 + j) = S (50 + (if j < p then j else j + 1)) := fun j hj => by
    unfold sGo
    rw [updn (by omega)]
    by_cases c : j < p
    · rw [if_neg (by omega), if_pos c]
    · rw [if_pos (by omega), if_neg c]; rfl
  refine ⟨by rw [sGo_off hq (by omega)]; exact h0, hn, by unfold sGo; rw [upds rfl], by omega, fun j hj => ?_, fun i j hi hj e => ?_, by rw [sGo_off hq (by omega)]; exact hr, by rw [sGo_off hq (by omega)]; exact hw⟩
  · rw [at' j hj]; exact he _ (by split <;> omega)
  · rw [at' i hi, at' j hj] at e
    have := hd _ _ (by split <;> omega) (by split <;> omega) e
    split at this <;> split at this <;> omega
theorem pSh_come {S : pS} {n q i : Nat} (h : pSh S n q) (hq8 : q < 8) (hi : i < n) (hnew : ∀ j, j < q → S (50 + j) ≠ nI i) : pSh (sCome S q i) n (q + 1) := by
  obtain ⟨h0, hn, h1, hq, he, hd, hr, hw⟩ := h
  have at' : ∀ j, j < q → sCome S q i (50 + j) = S (50 + j) := fun j hj => by unfold sCome; rw [updn (by omega), updn (by omega)]
  have atq : sCome S q i (50 + q) = nI i := by unfold sCome; rw [updn (by omega), upds rfl]
  refine ⟨by rw [sCome_off hq8 (by omega)]; exact h0, hn, by unfold sCome; rw [upds rfl], by omega, fun j hj => ?_, fun x y hx hy e => ?_, by rw [sCome_off hq8 (by omega)]; exact hr, by rw [sCome_off hq8 (by omega)]; exact hw⟩
  · by_cases c : j = q
    · rw [c, atq]; exact ⟨i, hi, rfl⟩
    · rw [at' j (by omega)]; exact he j (by omega)
  · by_cases c : x = q
    · by_cases c2 : y = q
      · omega
      · rw [c, atq, at' y (by omega)] at e; exact absurd e.symm (hnew y (by omega))
    · by_cases c2 : y = q
      · rw [c2, atq, at' x (by omega)] at e; exact absurd e (hnew x (by omega))
      · rw [at' x (by omega), at' y (by omega)] at e; exact hd x y (by omega) (by omega) e
theorem pSh_quarrel {S M : pS} {n q w l : Nat} (h : pSh S n q) (ht : cN (S 122) ≤ 20) (hw : w < 8) (hl : l < 8) : pSh (oQuarrel (S, M) w l).1 n q :=
  pSh_ext h fun i hi => qu_off ht hw hl (by omega)
theorem sNote_t {S : pS} {k a b : Int32} (ht : cN (S 122) ≤ 20) : cN (sNote S k a b 122) ≤ 20 := by
  unfold sNote
  split
  · show cN (sPut _ _ _ _ _ _ _) ≤ 20
    unfold sPut
    rw [upds rfl, cN_nI (by omega)]; omega
  · unfold sPut
    rw [upds rfl, cN_nI (by omega)]; omega
theorem qu_t {S M : pS} {w l : Nat} (ht : cN (S 122) ≤ 20) (hw : w < 8) (hl : l < 8) : cN ((oQuarrel (S, M) w l).1 122) ≤ 20 :=
  sNote_t (show cN (sSq S w l 122) ≤ 20 by rw [sSq_off hw hl (by omega)]; exact ht)
