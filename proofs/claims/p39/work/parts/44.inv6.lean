/-! ===== a command ===== -/
def IV (B : Nat) (X : pX) : Prop := (∃ n q, IA X.1 n q) ∧ MM B X
theorem MM_mono {B B' : Nat} {X : pX} (h : MM B X) (hB : B ≤ B') : MM B' X := by
  obtain ⟨h1, d, hd, hdB⟩ := h
  exact ⟨h1, d, hd, by omega⟩
theorem IV_mono {B B' : Nat} {X : pX} (h : IV B X) (hB : B ≤ B') : IV B' X := ⟨h.1, MM_mono h.2 hB⟩
def dW (S : pS) (kd v : Int32) : Int32 × Int32 := if kd = 106 then wJoin S v else if kd = 108 then wLeave S v else if kd = 100 then wDraw S v else if kd = 110 then wNight v else if kd = 114 then wRain v else if kd = 118 then wVote S else wLeather S
def dX (X : pX) (kd v : Int32) : pX := if kd = 106 then (oJL (cN (X.1 0)) (cN v) (cN (X.1 49)) X).2 else if kd = 108 then (sGo X.1 (cN (X.1 49)) (cN (pPl X.1 v (cN (X.1 49)))), X.2) else if kd = 100 then (oDrawN (cN v) X).2 else if kd = 110 then (sNightN (cN (X.1 0)) (cN v) X.1, X.2) else if kd = 114 then (upd X.1 208 v, X.2) else if kd = 118 then (oVote X).2 else (oRenew X).2
theorem IV_join {B : Nat} {S M : pS} {n q : Nat} {v : Int32} (hA : IA S n q) (hM : MM B (S, M)) (hB : B < 10 ^ 7) (hW : (wJoin S v).1 = 0) : IV B (oJL n (cN v) q (S, M)).2 := by
  have hn := hA.1.2.1
  have hh : pHas v n = true := by
    rw [wJoin_e hA.1] at hW
    by_cases c : pHas v n = true
    · exact c
    · rw [if_neg c] at hW; exact absurd (show (3 : Int32) = 0 from hW) (by decide)
  obtain ⟨i, hi, rfl⟩ := (pHas_iff (by omega)).mp hh
  rw [cN_nI (by omega)]
  have hno := jo_no hA.1 hi hW
  have h8 := pSh_room hA.1 hi hno
  have hp : 1 ≤ pLeft S i := by
    have e := lf_n hA (i := i) (by omega)
    rw [e.1]
    refine (nI_le1 (by omega)).mpr ?_
    rcases Nat.eq_zero_or_pos (lf S i) with z | z
    · have e0 : pLeft S i = 0 := by rw [e.1, z]; rfl
      have hpl : pPl S (nI i) q = -1 := by
        rcases pPl_cases S (nI i) q with x | ⟨u, hu, -, x⟩
        · exact x
        · exact absurd x (hno u hu)
      rw [wJoin_e hA.1, if_pos hh, if_pos hpl, cN_nI (by omega), if_pos e0] at hW
      exact absurd (show (6 : Int32) = 0 from hW) (by decide)
    · exact z
  obtain ⟨q', h'⟩ := IA_join q S M hA hi hno hp
  refine ⟨⟨n, q', h'⟩, MM_join hB (by omega) q S M h8 (fun j hj => ?_) hM⟩
  obtain ⟨z, hz, ez⟩ := hA.1.2.2.2.2.1 j hj
  rw [ez, cN_nI (by omega)]
  omega
theorem IV_leave {B : Nat} {S M : pS} {n q : Nat} {v : Int32} (hA : IA S n q) (hM : MM B (S, M)) (hW : (wLeave S v).1 = 0) : ∃ u, u < q ∧ pPl S v q = nI u ∧ IV B (sGo S q (cN (pPl S v q)), M) := by
  have hn := hA.1.2.1
  have hq := hA.1.2.2.2.1
  have hh : pHas v n = true := by
    rw [wLeave_e hA.1] at hW
    by_cases c : pHas v n = true
    · exact c
    · rw [if_neg c] at hW; exact absurd (show (3 : Int32) = 0 from hW) (by decide)
  obtain ⟨i, hi, rfl⟩ := (pHas_iff (by omega)).mp hh
  obtain ⟨u, hu, eu⟩ := le_p hA.1 hi hW
  refine ⟨u, hu, eu, ?_⟩
  rw [eu, cN_nI (by omega)]
  exact ⟨⟨n, q - 1, IA_go hA hu⟩, MM_ext hM fun k hk => sGo_off hq (by omega)⟩
theorem IV_draw {B : Nat} {S M : pS} {n q : Nat} {v : Int32} (hA : IA S n q) (hM : MM B (S, M)) (hB : B < 10 ^ 7) (hW : (wDraw S v).1 = 0) : IV B (oDrawN (cN v) (S, M)).2 := by
  have hh : pIn v 1 50 = true := by
    rw [wDraw_e hA.1] at hW
    by_cases c : pIn v 1 50 = true
    · exact c
    · rw [if_neg c] at hW; exact absurd (show (1 : Int32) = 0 from hW) (by decide)
  obtain ⟨j, hj1, hj, rfl⟩ := pIn_nat (k := 50) (by omega) hh
  rw [cN_nI (by omega)]
  obtain ⟨h1, -⟩ := draw_j hA hj hW
  obtain ⟨q', h', -⟩ := IA_drawN (M := M) hA j h1
  exact ⟨⟨n, q', h'⟩, MM_drawN hA hM hB j h1⟩
theorem IV_night {B : Nat} {S M : pS} {n q : Nat} {v : Int32} (hA : IA S n q) (hM : MM B (S, M)) (hW : (wNight v).1 = 0) : IV (B + 50) (sNightN n (cN v) S, M) := by
  obtain ⟨j, hj1, hj, rfl⟩ := pIn_nat (k := 50) (by omega) (ni_in hW)
  rw [cN_nI (by omega)]
  obtain ⟨q', h'⟩ := IA_nightN hA j
  exact ⟨⟨n, q', h'⟩, MM_mono (MM_night hA.1.2.1 hM) (by omega)⟩
theorem IV_rain {B : Nat} {S M : pS} {n q : Nat} {v : Int32} (hA : IA S n q) (hM : MM B (S, M)) : IV B (upd S 208 v, M) :=
  ⟨⟨n, q, IA_ext hA (fun i hi => updn (by omega)) (let ⟨x, ex, hx⟩ := hA.2.2.2.2.2; ⟨x, (updn (f := S) (k := 208) (j := 205) (x := v) (by omega)).trans ex, hx⟩)⟩, MM_ext hM fun i hi => updn (by omega)⟩
theorem IV_coins {B : Nat} {S M : pS} {n q : Nat} {v : Int32} (hA : IA S n q) (hM : MM B (S, M)) : IV B (upd S 209 v, M) :=
  ⟨⟨n, q, IA_ext hA (fun i hi => updn (by omega)) (let ⟨x, ex, hx⟩ := hA.2.2.2.2.2; ⟨x, (updn (f := S) (k := 209) (j := 205) (x := v) (by omega)).trans ex, hx⟩)⟩, MM_ext hM fun i hi => updn (by omega)⟩
theorem IV_vote {B : Nat} {S M : pS} {n q : Nat} (hA : IA S n q) (hM : MM B (S, M)) (hB : B < 10 ^ 7) : IV B (oVote (S, M)).2 := by
  obtain ⟨q', h'⟩ := IA_vote (M := M) hA
  exact ⟨⟨n, q', h'⟩, MM_vote hA hM hB⟩
theorem IV_renew {B : Nat} {S M : pS} {n q : Nat} (hA : IA S n q) (hM : MM B (S, M)) (hB : B < 10 ^ 7) : IV B (oRenew (S, M)).2 := by
  refine ⟨⟨n, q, ?_⟩, MM_renew hM hB⟩
  show IA (sNote (upd (upd S 209 (S 209 - 20)) 205 0) 3 0 0) n q
  exact IA_note (IA_ext hA (fun i hi => by rw [updn (by omega), updn (by omega)]) ⟨0, upds rfl, by omega⟩) _ _ _
theorem IV_house {B : Nat} {S M : pS} {n q : Nat} {x y t : Int32} (hA : IA S n q) (hM : MM B (S, M)) (hW : (wHouse S x y t).1 = 0) : IV B (sHouse S n x y t, M) := by
  have hn8 := ho_n hA.1.1 hA.1.2.1 hW
  refine ⟨⟨n + 1, q, IA_house hA hW⟩, MM_ext hM fun i hi => ?_⟩
  unfold sHouse
  rw [updn (by omega), updn (by omega), updn (by omega), updn (by omega)]
theorem IV_do {B : Nat} {X : pX} {kd v : Int32} (h : IV B X) (hB : B < 10 ^ 7) (hW : (dW X.1 kd v).1 = 0) : IV (B + 50) (dX X kd v) := by
  obtain ⟨S, M⟩ := X
  obtain ⟨⟨n, q, hA⟩, hM⟩ := h
  have hA : IA S n q := hA
  have hq := hA.1.2.2.2.1
  have hn := hA.1.2.1
  have e0 : cN (S 0) = n := by rw [hA.1.1, cN_nI (by omega)]
  have e1 : cN (S 49) = q := by rw [hA.1.2.2.1, cN_nI (by omega)]
  have hW : (dW S kd v).1 = 0 := hW
  show IV (B + 50) (if kd = 106 then (oJL (cN (S 0)) (cN v) (cN (S 49)) (S, M)).2 else if kd = 108 then (sGo S (cN (S 49)) (cN (pPl S v (cN (S 49)))), M) else if kd = 100 then (oDrawN (cN v) (S, M)).2 else if kd = 110 then (sNightN (cN (S 0)) (cN v) S, M) else if kd = 114 then (upd S 208 v, M) else if kd = 118 then (oVote (S, M)).2 else (oRenew (S, M)).2)
  rw [e0, e1]
  unfold dW at hW
  by_cases c1 : kd = 106
  · rw [if_pos c1] at hW ⊢
    exact IV_mono (IV_join hA hM hB hW) (by omega)
  rw [if_neg c1] at hW ⊢
  by_cases c2 : kd = 108
  · rw [if_pos c2] at hW ⊢
    obtain ⟨u, -, -, h⟩ := IV_leave hA hM hW
    exact IV_mono h (by omega)
  rw [if_neg c2] at hW ⊢
  by_cases c3 : kd = 100
  · rw [if_pos c3] at hW ⊢
    exact IV_mono (IV_draw hA hM hB hW) (by omega)
  rw [if_neg c3] at hW ⊢
  by_cases c4 : kd = 110
  · rw [if_pos c4] at hW ⊢
    exact IV_night hA hM hW
  rw [if_neg c4] at hW ⊢
  by_cases c5 : kd = 114
  · rw [if_pos c5] at hW ⊢
    exact IV_mono (IV_rain hA hM) (by omega)
  rw [if_neg c5] at hW ⊢
  by_cases c6 : kd = 118
  · rw [if_pos c6] at hW ⊢
    exact IV_mono (IV_vote hA hM hB) (by omega)
  rw [if_neg c6] at hW ⊢
  exact IV_mono (IV_renew hA hM hB) (by omega)
/-! a row of commands -/
