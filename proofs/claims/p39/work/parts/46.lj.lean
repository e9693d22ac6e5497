/-! ===== the law's invariant, kept by every change ===== -/
def LJ (B n : Nat) (X : pX) : Prop := (∃ q, IA X.1 n q) ∧ MM B X ∧ QA X.1 n
theorem LJ_mono {B B' n : Nat} {X : pX} (h : LJ B n X) (hB : B ≤ B') : LJ B' n X := ⟨h.1, MM_mono h.2.1 hB, h.2.2⟩
theorem jo_all {S : pS} {n q : Nat} {v : Int32} (hA : IA S n q) (hW : (wJoin S v).1 = 0) : ∃ i, i < n ∧ v = nI i ∧ (∀ j, j < q → S (50 + j) ≠ nI i) ∧ 1 ≤ pLeft S i := by
  have hn := hA.1.2.1
  have hh : pHas v n = true := by
    rw [wJoin_e hA.1] at hW
    by_cases c : pHas v n = true
    · exact c
    · rw [if_neg c] at hW; exact absurd (show (3 : Int32) = 0 from hW) (by decide)
  obtain ⟨i, hi, rfl⟩ := (pHas_iff (by omega)).mp hh
  have hno := jo_no hA.1 hi hW
  refine ⟨i, hi, rfl, hno, ?_⟩
  have e := lf_n hA (i := i) (by omega)
  rw [e.1]
  refine (nI_le1 (by omega)).mpr ?_
  rcases Nat.eq_zero_or_pos (lf S i) with z | z
  · have e0 : pLeft S i = 0 := by rw [e.1, z]; rfl
    have hpl : pPl S (nI i) q = -1 := by
      rcases pPl_cases S (nI i) q with x | ⟨u, hu, -, x⟩
      · exact x
      · exact absurd x (hno u hu)
    rw [wJoin_e hA.1, if_pos hh, if_pos hpl, cN_nI (by omega), if_pos e0] at hW
    exact absurd (show (6 : Int32) = 0 from hW) (by decide)
  · exact z
theorem LJ_join {B n q : Nat} {S M : pS} {v : Int32} (hA : IA S n q) (hM : MM B (S, M)) (hQ : QA S n) (hB : B < 10 ^ 7) (hW : (wJoin S v).1 = 0) : LJ B n (oJL (cN (S 0)) (cN v) (cN (S 49)) (S, M)).2 := by
  have hn := hA.1.2.1
  rw [hA.1.1, hA.1.2.2.1, cN_nI (show n < 2 ^ 31 by omega), cN_nI (show q < 2 ^ 31 by have := hA.1.2.2.2.1; omega)]
  obtain ⟨i, hi, rfl, hno, hp⟩ := jo_all hA hW
  rw [cN_nI (by omega)]
  have h8 := pSh_room hA.1 hi hno
  obtain ⟨q', h'⟩ := IA_join q S M hA hi hno hp
  refine ⟨⟨q', h'⟩, MM_join hB (by omega) q S M h8 (fun j hj => ?_) hM, QA_join q S M hA hi hno hp hQ⟩
  obtain ⟨z, hz, ez⟩ := hA.1.2.2.2.2.1 j hj
  rw [ez, cN_nI (by omega)]
  omega
theorem LJ_leave {B n q : Nat} {S M : pS} {v : Int32} (hA : IA S n q) (hM : MM B (S, M)) (hQ : QA S n) (hW : (wLeave S v).1 = 0) : LJ B n (sGo S (cN (S 49)) (cN (pPl S v (cN (S 49)))), M) := by
  have hn := hA.1.2.1
  have hq := hA.1.2.2.2.1
  rw [hA.1.2.2.1, cN_nI (show q < 2 ^ 31 by omega)]
  have hh : pHas v n = true := by
    rw [wLeave_e hA.1] at hW
    by_cases c : pHas v n = true
    · exact c
    · rw [if_neg c] at hW; exact absurd (show (3 : Int32) = 0 from hW) (by decide)
  obtain ⟨i, hi, rfl⟩ := (pHas_iff (by omega)).mp hh
  obtain ⟨u, hu, eu⟩ := le_p hA.1 hi hW
  rw [eu, cN_nI (by omega)]
  exact ⟨⟨q - 1, IA_go hA hu⟩, MM_ext hM fun k hk => sGo_off hq (by omega), QA_leave hQ hq⟩
theorem LJ_draw {B n q : Nat} {S M : pS} {v : Int32} (hA : IA S n q) (hM : MM B (S, M)) (hQ : QA S n) (hB : B < 10 ^ 7) (hW : (wDraw S v).1 = 0) : LJ B n (oDrawN (cN v) (S, M)).2 := by
  have hh : pIn v 1 50 = true := by
    rw [wDraw_e hA.1] at hW
    by_cases c : pIn v 1 50 = true
    · exact c
    · rw [if_neg c] at hW; exact absurd (show (1 : Int32) = 0 from hW) (by decide)
  obtain ⟨j, hj1, hj, rfl⟩ := pIn_nat (k := 50) (by omega) hh
  rw [cN_nI (by omega)]
  obtain ⟨h1, -⟩ := draw_j hA hj hW
  obtain ⟨q', h', -⟩ := IA_drawN (M := M) hA j h1
  obtain ⟨x, hx, h50⟩ := hA.2.2.2.2.2
  obtain ⟨w, hw, hw9⟩ := hQ.2.2.2.2.2.2
  have hb : brN x j ≤ w := by
    rw [wDraw_e hA.1, if_pos hh] at hW
    by_cases c2 : pAll S q < nI j
    · rw [if_pos c2] at hW; exact absurd (show (7 : Int32) = 0 from hW) (by decide)
    rw [if_neg c2, cN_nI (by omega)] at hW
    by_cases c3 : S 204 < pBrings S j
    · rw [if_pos c3] at hW; exact absurd (show (8 : Int32) = 0 from hW) (by decide)
    rw [hw, brings_n hx h50 j (by omega)] at c3
    have := brN_le x j
    exact (nI_leI (by omega) (by omega)).mp (Int32.not_lt.mp c3)
  exact ⟨⟨q', h'⟩, MM_drawN hA hM hB j h1, (QA_drawN hA hQ hx h50 hw hw9 j hj h1 hb).1⟩
theorem LJ_vote {B n q : Nat} {S M : pS} (hA : IA S n q) (hM : MM B (S, M)) (hQ : QA S n) (hB : B < 10 ^ 7) : LJ B n (oVote (S, M)).2 := by
  obtain ⟨q', h'⟩ := IA_vote (M := M) hA
  exact ⟨⟨q', h'⟩, MM_vote hA hM hB, QA_vote hA hQ⟩
theorem QA_rain {S : pS} {n j : Nat} (h : QA S n) (hj : j ≤ 9) : QA (upd S 208 (nI j)) n := by
  obtain ⟨-, h1, h2, h3, h4, h5, v, h6, h7⟩ := h
  have e : ∀ i, qP i → i ≠ 208 → upd S 208 (nI j) i = S i := fun i _ hi => updn hi
  have e5 : ∀ k, k < 8 → upd S 208 (nI j) (1 + 6 * k + 5) = S (1 + 6 * k + 5) := fun k hk => updn (by omega)
  have e6 : ∀ w l, w < 8 → l < 8 → upd S 208 (nI j) (58 + 8 * w + l) = S (58 + 8 * w + l) := fun w l hw hl => updn (by omega)
  refine ⟨⟨j, upds rfl, hj⟩, fun i a b => by rw [e5 i b]; exact h1 i a b, ?_, fun w l a b c => by rw [e6 w l a b]; exact h3 w l a b c, ?_, ?_, v, by rw [updn (by omega)]; exact h6, h7⟩
  · rw [updn (by omega), ← h2]
    exact rs_ext fun k hk => e5 k hk
  · rw [updn (by omega), ← h4]
    exact rs_ext fun w hw => rs_ext fun l hl => e6 w l hw hl
  · rw [updn (by omega), updn (by omega), updn (by omega), updn (by omega)]
    exact h5
theorem LJ_rain {B n q j : Nat} {S M : pS} (hA : IA S n q) (hM : MM B (S, M)) (hQ : QA S n) (hj : j ≤ 9) : LJ B n (upd S 208 (nI j), M) :=
  ⟨⟨q, IA_ext hA (fun i hi => updn (by omega)) (let ⟨x, ex, hx⟩ := hA.2.2.2.2.2; ⟨x, (updn (f := S) (k := 208) (j := 205) (x := nI j) (by omega)).trans ex, hx⟩)⟩, MM_ext hM fun i hi => updn (by omega), QA_rain hQ hj⟩
theorem LJ_coins {B n q : Nat} {S M : pS} {v : Int32} (hA : IA S n q) (hM : MM B (S, M)) (hQ : QA S n) : LJ B n (upd S 209 v, M) :=
  ⟨⟨q, IA_ext hA (fun i hi => updn (by omega)) (let ⟨x, ex, hx⟩ := hA.2.2.2.2.2; ⟨x, (updn (f := S) (k := 209) (j := 205) (x := v) (by omega)).trans ex, hx⟩)⟩, MM_ext hM fun i hi => updn (by omega), QA_ext hQ fun i hi => updn (by have := qP_b hi; omega)⟩
theorem LJ_renew {B n q : Nat} {S M : pS} (hA : IA S n q) (hM : MM B (S, M)) (hQ : QA S n) (hB : B < 10 ^ 7) : LJ B n (oRenew (S, M)).2 := by
  refine ⟨⟨q, ?_⟩, MM_renew hM hB, QA_renew hA hQ⟩
  show IA (sNote (upd (upd S 209 (S 209 - 20)) 205 0) 3 0 0) n q
  exact IA_note (IA_ext hA (fun i hi => by rw [updn (by omega), updn (by omega)]) ⟨0, upds rfl, by omega⟩) _ _ _
theorem LJ_night {B n q : Nat} {S M : pS} {v : Int32} (hA : IA S n q) (hM : MM B (S, M)) (hQ : QA S n) (hW : (wNight v).1 = 0) : LJ (B + 50) n (sNightN (cN (S 0)) (cN v) S, M) := by
  have hn := hA.1.2.1
  rw [hA.1.1, cN_nI (show n < 2 ^ 31 by omega)]
  obtain ⟨j, hj1, hj, rfl⟩ := pIn_nat (k := 50) (by omega) (ni_in hW)
  rw [cN_nI (by omega)]
  obtain ⟨q', h'⟩ := IA_nightN hA j
  obtain ⟨r, hr, hr9⟩ := hQ.1
  exact ⟨⟨q', h'⟩, MM_mono (MM_night hn hM) (by omega), QA_nightN hn hr hr9 hQ j⟩
theorem LJ_house {B n q : Nat} {S M : pS} {x y t : Int32} (hA : IA S n q) (hM : MM B (S, M)) (hQ : QA S n) (hW : (wHouse S x y t).1 = 0) : LJ B (n + 1) (sHouse S (cN (S 0)) x y t, M) := by
  have hn8 := ho_n hA.1.1 hA.1.2.1 hW
  rw [hA.1.1, cN_nI (show n < 2 ^ 31 by omega)]
  refine ⟨⟨q, IA_house hA hW⟩, MM_ext hM fun i hi => ?_, QA_house hn8 hQ⟩
  unfold sHouse
  rw [updn (by omega), updn (by omega), updn (by omega), updn (by omega)]
theorem wRain_0 {j : Nat} (h : j < 10) : (wRain (nI j)).1 = 0 := by
  have : ∀ j, j < 10 → (wRain (nI j)).1 = 0 := by decide +kernel
  exact this j h
theorem wHouse_0 {S : pS} {n : Nat} (h0 : S 0 = nI n) (hn : n < 8) {x y t : Nat} (hx : 1 ≤ x ∧ x ≤ 9) (hy : y < 8) (ht : t < 10) : (wHouse S (nI x) (nI y) (nI t)).1 = 0 := by
  have a1 : ∀ x, x < 10 → 1 ≤ x → pIn (nI x) 1 9 = true := by decide +kernel
  have a2 : ∀ y, y < 8 → pIn (nI y) 0 19 = true := by decide +kernel
  have a3 : ∀ t, t < 10 → pIn (nI t) 0 9 = true := by decide +kernel
  unfold wHouse
  have a4 : ¬ S 0 = 8 := fun e => by
    rw [h0] at e
    have := (nI_eq (a := n) (b := 8) (by omega) (by omega)).mp e
    omega
  rw [a1 x (by omega) hx.1, a2 y hy, a3 t ht, if_pos (show (true && true && true) = true from rfl), if_neg a4]
/-! ===== what the law counts ===== -/
theorem pWant_le (S : pS) (h : Nat) : ∀ k, pWant S h k ≤ k
  | 0 => Nat.le_refl 0
  | k + 1 => by
    have := pWant_le S h k
    simp only [pWant]
    split <;> omega
theorem pPl_pos {S : pS} {h : Int32} {q : Nat} (hq : q ≤ 8) : 0 ≤ pPl S h q ↔ ¬ pPl S h q = -1 := by
  rcases pPl_cases S h q with e | ⟨u, hu, e, -⟩
  · rw [e]; decide
  · rw [e]
    have : ∀ u, u < 8 → (0 ≤ nI u ↔ ¬ nI u = -1) := by decide +kernel
    exact this u (by omega)
/-- over the queue -/
def qs (S : pS) (g : Nat → Int32) : Nat → Int32
  | 0 => 0
  | k + 1 => qs S g k + g (cN (S (50 + k)))
def fQ (S : pS) (g : Nat → Int32) (q : Nat) : Nat → Int32 := fun i => if 0 ≤ pPl S (nI i) q then g i else 0
theorem wait_sum {S : pS} {n q : Nat} (hI : pSh S n q) (g : Nat → Int32) : ∀ q', q' ≤ q → rs (fQ S g q') n = qs S g q'
  | 0, _ => rs_zero fun j hj => by
    unfold fQ
    rw [if_neg (by rw [show pPl S (nI j) 0 = -1 from rfl]; decide)]
  | q' + 1, h => by
    have hn := hI.2.1
    have hq := hI.2.2.2.1
    obtain ⟨z, hz, ez⟩ := hI.2.2.2.2.1 q' (by omega)
    have hc : cN (S (50 + q')) = z := by rw [ez, cN_nI (by omega)]
    show _ = qs S g q' + g (cN (S (50 + q')))
    rw [← wait_sum hI g q' (by omega), hc]
    have hnone : pPl S (nI z) q' = -1 := pPl_none fun i hi e => by
      have := hI.2.2.2.2.2.1 i q' (by omega) (by omega) (by rw [e, ez])
      omega
    refine rs_one (i := z) ?_ (fun j hj hne => ?_) hz
    · have e1 : pPl S (nI z) (q' + 1) = nI q' := if_pos ez
      have g1 : fQ S g (q' + 1) z = g z := by
        unfold fQ
        rw [e1]
        exact if_pos ((nI_leI (a := 0) (b := q') (by omega) (by omega)).mpr (Nat.zero_le _))
      have g0 : fQ S g q' z = 0 := by
        unfold fQ
        rw [hnone]
        exact if_neg (by decide)
      rw [g1, g0]
      exact (Int32.zero_add _).symm
    · unfold fQ
      have e1 : pPl S (nI j) (q' + 1) = pPl S (nI j) q' := if_neg (fun e => by
        rw [ez] at e
        have := (nI_eq (a := z) (b := j) (by omega) (by omega)).mp e
        omega)
      rw [e1]
theorem qs_one {S : pS} : ∀ q, q ≤ 8 → qs S (fun _ => 1) q = nI q
  | 0, _ => rfl
  | k + 1, h => by
    show qs S (fun _ => 1) k + 1 = _
    rw [qs_one k (by omega)]
    exact nI_add k 1
theorem qs_all {S : pS} : ∀ q, qs S (pLeft S) q = pAll S q
  | 0 => rfl
  | k + 1 => by
    show qs S (pLeft S) k + pLeft S (cN (S (50 + k))) = pAll S k + pLeft S (cN (S (50 + k)))
    rw [qs_all k]
theorem sum_wait {S : pS} {n q : Nat} (hI : pSh S n q) : rs (fQ S (fun _ => 1) q) n = nI q := by rw [wait_sum hI _ q (Nat.le_refl _), qs_one q hI.2.2.2.1]
theorem sum_poss {S : pS} {n q : Nat} (hI : pSh S n q) : rs (fQ S (pLeft S) q) n = pAll S q := by rw [wait_sum hI _ q (Nat.le_refl _), qs_all]
theorem sum_water {S : pS} {n : Nat} (hn : n ≤ 8) (h : QA S n) : rs (fun i => S (1 + 6 * i + 5)) n = S 210 := by
  rw [← h.2.2.1]
  exact (rs_cut hn fun j a b => h.2.1 j a b).symm
theorem sum_quar {S : pS} {n : Nat} (hn : n ≤ 8) (h : QA S n) : rs (fun w => rs (fun l => S (58 + 8 * w + l)) n) n = S 213 := by
  rw [← h.2.2.2.2.1]
  have z := h.2.2.2.1
  rw [rs_cut (f := fun w => rs (fun l => S (58 + 8 * w + l)) 8) hn (fun w a b => rs_zero fun l hl => z w l b hl (Or.inl a))]
  exact rs_ext fun w hw => (rs_cut hn fun l a b => z w l (by omega) b (Or.inr (Or.inl a))).symm
theorem diag_0 {S : pS} {n i : Nat} (h : QA S n) (hi : i < 8) : S (58 + 8 * i + i) = 0 := h.2.2.2.1 i i hi hi (Or.inr (Or.inr rfl))
/-! neighbours, bit by bit -/
def nbV (S : pS) (h : Nat) : Nat → Nat
  | 0 => 0
  | k + 1 => nbV S h k + (if pNear S h k = true then 2 ^ k else 0)
theorem nbV_lt (S : pS) (h : Nat) : ∀ k, nbV S h k < 2 ^ k
  | 0 => by show 0 < 2 ^ 0; decide
  | k + 1 => by
    have := nbV_lt S h k
    simp only [nbV, Nat.pow_succ]
    split <;> omega
theorem nb_or : ∀ k, k < 8 → ∀ v, v < 2 ^ k → nI v ||| (1 <<< (nI k &&& 31)) = nI (v + 2 ^ k) := by decide +kernel
theorem nb_n (S : pS) (h : Nat) : ∀ k, k ≤ 8 → pNbs S h k = nI (nbV S h k)
  | 0, _ => rfl
  | k + 1, hk => by
    simp only [pNbs, nbV]
    rw [nb_n S h k (by omega)]
    by_cases c : pNear S h k = true
    · rw [if_pos c, if_pos c]
      exact nb_or k (by omega) _ (nbV_lt S h k)
    · rw [if_neg c, if_neg c, Nat.add_zero]
      have : ∀ x : Int32, x ||| 0 = x := fun x => by simp
      exact this _
theorem nb_t1 : ∀ k, k < 8 → ∀ v, v < 2 ^ k → (∀ o, o < k → (v + 2 ^ k) / 2 ^ o % 2 = v / 2 ^ o % 2) ∧ (v + 2 ^ k) / 2 ^ k % 2 = 1 ∧ v / 2 ^ k % 2 = 0 := by decide +kernel
theorem nbV_bit (S : pS) (h : Nat) : ∀ k, k ≤ 8 → ∀ o, o < k → nbV S h k / 2 ^ o % 2 = (if pNear S h o = true then 1 else 0)
  | 0, _, o, ho => absurd ho (Nat.not_lt_zero _)
  | k + 1, hk, o, ho => by
    obtain ⟨t1, t2, t3⟩ := nb_t1 k (by omega) _ (nbV_lt S h k)
    simp only [nbV]
    by_cases c : pNear S h k = true
    · rw [if_pos c]
      rcases Nat.lt_or_ge o k with g | g
      · rw [t1 o g]; exact nbV_bit S h k (by omega) o g
      · obtain rfl : o = k := by omega
        rw [t2, if_pos c]
    · rw [if_neg c, Nat.add_zero]
      rcases Nat.lt_or_ge o k with g | g
      · exact nbV_bit S h k (by omega) o g
      · obtain rfl : o = k := by omega
        rw [t3, if_neg c]
theorem nb_sh : ∀ v, v < 256 → ∀ o, o < 8 → (nI v >>> (nI o &&& 31)) &&& 1 = nI (v / 2 ^ o % 2) := by decide +kernel
theorem nb_bit {S : pS} {h n o : Nat} (hn : n ≤ 8) (ho : o < n) : (pNbs S h n >>> (nI o &&& 31)) &&& 1 = bI (pNear S h o) := by
  have h1 := nbV_lt S h n
  have h2 : 2 ^ n ≤ 2 ^ 8 := Nat.pow_le_pow_right (by decide) hn
  rw [nb_n S h n hn, nb_sh _ (by omega) o (by omega), nbV_bit S h n hn o ho, bI]
  split <;> rfl
/-! the members behind each law -/
def mA (S : pS) (k : Nat) : Nat → Int32 := fun l => if l < 4 then pMem S (nI l) k else 0
theorem mA_0 (S : pS) : mA S 0 = fun _ => 0 := by
  funext l
  unfold mA
  split <;> rfl
theorem mA_s {S : pS} {k w : Nat} (hw : w = pWant S k 3) : upd (mA S k) w (mA S k w + S (1 + 6 * k + 0)) = mA S (k + 1) := by
  have h3 := pWant_le S k 3
  funext l
  by_cases c : l = w
  · subst c
    rw [upds rfl]
    unfold mA
    rw [if_pos (by omega), if_pos (by omega)]
    show _ = pMem S (nI l) k + (if nI (pWant S k 3) = nI l then S (1 + 6 * k + 0) else 0)
    rw [if_pos (by rw [← hw])]
  · rw [updn c]
    unfold mA
    split
    · show _ = pMem S (nI l) k + (if nI (pWant S k 3) = nI l then S (1 + 6 * k + 0) else 0)
      rw [if_neg (fun e => by
        have := (nI_eq (a := pWant S k 3) (b := l) (by omega) (by omega)).mp e
        omega)]
      exact (Int32.add_zero _).symm
    · rfl
theorem mA_at {S : pS} {n l : Nat} (hl : l < 4) : mA S n l = pMem S (nI l) n := if_pos hl
