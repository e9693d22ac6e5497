/-! ===== drawing, voting, nights, households ===== -/
def sumN (f : Nat → Nat) : Nat → Nat
  | 0 => 0
  | k + 1 => sumN f k + f k
theorem sumN_ext {f g : Nat → Nat} : ∀ {k : Nat}, (∀ j, j < k → f j = g j) → sumN f k = sumN g k
  | 0, _ => rfl
  | k + 1, h => by rw [sumN, sumN, sumN_ext (fun j hj => h j (by omega)), h k (by omega)]
theorem sumN_shift {f : Nat → Nat} : ∀ {k : Nat}, sumN f (k + 1) = f 0 + sumN (fun j => f (j + 1)) k
  | 0 => by simp [sumN]
  | k + 1 => by
    rw [sumN, sumN_shift (f := f) (k := k), sumN]
    omega
theorem sumN_le {f : Nat → Nat} {b : Nat} : ∀ {k : Nat}, (∀ j, j < k → f j ≤ b) → sumN f k ≤ k * b
  | 0, _ => Nat.zero_le _
  | k + 1, h => by
    have a := sumN_le (f := f) (b := b) (k := k) (fun j hj => h j (by omega))
    have c := h k (by omega)
    rw [sumN, Nat.succ_mul]
    omega
/-- a household's turns as a number -/
def lf (S : pS) (i : Nat) : Nat := cN (pLeft S i)
theorem lf_n {S : pS} {n q i : Nat} (h : IA S n q) (hi : i < 8) : pLeft S i = nI (lf S i) ∧ lf S i ≤ 5 := by
  obtain ⟨hS, hN, ⟨law, hlw, hl3⟩, hH, hP, -⟩ := h
  obtain ⟨b, hb⟩ := bI_of hS.2.2.2.2.2.2.1
  obtain ⟨m, x, t, d, o, hr⟩ := hH i hi
  have km := hr.2.2.2.2.2.1
  have b1 := tuN_le (b := b) (law := law) (t := t) km
  have e := left_n hr hlw hl3 hb
  unfold lf
  rw [e, cN_nI (by omega)]
  exact ⟨rfl, by omega⟩
def sL (S : pS) (q : Nat) : Nat := sumN (fun j => lf S (cN (S (50 + j)))) q
theorem all_n {S : pS} {n q : Nat} (h : IA S n q) : pAll S q = nI (sL S q) ∧ sL S q ≤ 40 := by
  have hn := h.1.2.1
  have hq := h.1.2.2.2.1
  have key : ∀ k, k ≤ q → pAll S k = nI (sumN (fun j => lf S (cN (S (50 + j)))) k) := by
    intro k
    induction k with
    | zero => intro _; rfl
    | succ k ih =>
      intro hk
      obtain ⟨i, hi, ei⟩ := h.1.2.2.2.2.1 k (by omega)
      have h1 := ih (by omega)
      have h2 : pLeft S (cN (S (50 + k))) = nI (lf S i) := by rw [ei, cN_nI (by omega)]; exact (lf_n h (by omega)).1
      have h3 : lf S (cN (S (50 + k))) = lf S i := by rw [ei, cN_nI (by omega)]
      have h4 : sumN (fun j => lf S (cN (S (50 + j)))) (k + 1) = sumN (fun j => lf S (cN (S (50 + j)))) k + lf S i := by rw [sumN, h3]
      have h5 : pAll S (k + 1) = pAll S k + pLeft S (cN (S (50 + k))) := rfl
      rw [h4, h5, h1, h2, nI_add]
  refine ⟨key q (Nat.le_refl q), ?_⟩
  have := sumN_le (f := fun j => lf S (cN (S (50 + j)))) (b := 5) (k := q) (fun j hj => by
    obtain ⟨i, hi, ei⟩ := h.1.2.2.2.2.1 j hj
    show lf S (cN (S (50 + j))) ≤ 5
    rw [ei, cN_nI (by omega)]
    exact (lf_n h (by omega)).2)
  unfold sL
  omega
theorem wear_tab : ∀ x, x < 51 → jmin 50 (nI x + 1) = nI (min 50 (x + 1)) := by decide +kernel
theorem bring_tab : ∀ x, x < 51 → pBring (nI x) = nI (10 - x / 10) := by decide +kernel
theorem IA_draw {S M : pS} {n q : Nat} (h : IA S n q) (hq0 : 0 < q) : ∃ q', IA (oDraw1 (S, M) q).1 n q' ∧ sL (oDraw1 (S, M) q).1 q' + 1 = sL S q := by
  have hn := h.1.2.1
  have hq := h.1.2.2.2.1
  obtain ⟨z, hz, ez⟩ := h.1.2.2.2.2.1 0 hq0
  have ez : S 50 = nI z := ez
  have h1 := IA_go h hq0
  have z8 : z < 8 := by omega
  -- behind the pump: the lane's row of z, the wear
  have hzp : 1 ≤ pLeft S z := by
    have := h.2.2.2.2.1 0 hq0
    rw [show 50 + 0 = 50 from rfl, ez, cN_nI (by omega)] at this
    exact this
  have goff : ∀ k, (k < 49 ∨ 58 ≤ k) → sGo S q 0 k = S k := fun k hk => sGo_off hq hk
  have gq : ∀ j, j + 1 < q → sGo S q 0 (50 + j) = S (50 + j + 1) := fun j hj => by
    unfold sGo
    rw [updn (by omega), if_pos (by omega)]
  have poff : ∀ k, k ≠ 204 ∧ k ≠ 205 ∧ k ≠ 210 ∧ k ≠ 212 → sPump (sGo S q 0) k = sGo S q 0 k := fun k hk => sPump_off hk
  have foff : ∀ k, k ≠ 1 + 6 * z + 3 ∧ k ≠ 1 + 6 * z + 5 → sFetch (sPump (sGo S q 0)) z (pBring (S 205)) k = sPump (sGo S q 0) k := fun k hk => sFetch_off hk
  obtain ⟨hS, hN, ⟨law, hlw, hl3⟩, hH, hP, ⟨x, ex, hx⟩⟩ := h
  obtain ⟨b, hb⟩ := bI_of hS.2.2.2.2.2.2.1
  obtain ⟨m, xx, t, d, o, hr⟩ := hH z z8
  have km := hr.2.2.2.2.2.1
  have b1 := tuN_le (b := b) (law := law) (t := t) km
  have elz := left_n hr hlw hl3 hb
  rw [elz] at hzp
  have hzn := (nI_le1 (by omega)).mp hzp
  -- the state ahead of the minute
  have hT : ∀ T : pS, T = sFetch (sPump (sGo S q 0)) z (pBring (S 205)) → IA T n (q - 1) ∧ hRow T z m xx t (d + 1) o ∧ (∀ k, (k < 204 ∨ k = 206 ∨ k = 207 ∨ k = 208 ∨ k = 209) → k ≠ 1 + 6 * z + 3 ∧ k ≠ 1 + 6 * z + 5 → T k = sGo S q 0 k) := by
    intro T hTe
    have toff : ∀ k, (k < 204 ∨ k = 206 ∨ k = 207 ∨ k = 208 ∨ k = 209) → k ≠ 1 + 6 * z + 3 ∧ k ≠ 1 + 6 * z + 5 → T k = sGo S q 0 k := fun k hk h2 => by
      rw [hTe, foff k h2, poff k (by omega)]
    have t3 : T (1 + 6 * z + 3) = nI (d + 1) := by
      rw [hTe]
      unfold sFetch
      rw [updn (by omega), upds rfl, poff _ (by omega), goff _ (by omega), hr.2.2.2.1]
      exact nI_1 d
    have t205 : T 205 = nI (min 50 (x + 1)) := by
      rw [hTe, foff 205 (by omega)]
      unfold sPump
      rw [upds rfl, goff 205 (by omega), ex]
      exact wear_tab x (by omega)
    obtain ⟨r0, r1, r2, r3, r4, r5⟩ := hr
    have hrT : hRow T z m xx t (d + 1) o := ⟨by rw [toff _ (by omega) (by omega), goff _ (by omega)]; exact r0, by rw [toff _ (by omega) (by omega), goff _ (by omega)]; exact r1, by rw [toff _ (by omega) (by omega), goff _ (by omega)]; exact r2, t3, by rw [toff _ (by omega) (by omega), goff _ (by omega)]; exact r4, r5.1, r5.2.1, r5.2.2.1, by omega⟩
    refine ⟨⟨?_, nOK_ext h1.2.1 (toff 122 (by omega) (by omega)), ⟨law, by rw [toff 203 (by omega) (by omega), goff 203 (by omega)]; exact hlw, hl3⟩, fun i hi => ?_, fun j hj => ?_, ⟨_, t205, by omega⟩⟩, hrT, toff⟩
    · obtain ⟨s0, s1, s2, s3, s4, s5, s6, s7⟩ := h1.1
      refine ⟨by rw [toff 0 (by omega) (by omega)]; exact s0, s1, by rw [toff 49 (by omega) (by omega)]; exact s2, s3, fun j hj => ?_, fun i j hi hj e => ?_, by rw [toff 207 (by omega) (by omega)]; exact s6, ?_⟩
      · rw [toff (50 + j) (by omega) (by omega)]; exact s4 j hj
      · rw [toff (50 + i) (by omega) (by omega), toff (50 + j) (by omega) (by omega)] at e; exact s5 i j hi hj e
      · rw [t205]
        have tab : ∀ x, x < 51 → jmin 50 (nI x) = nI x := by decide +kernel
        exact tab _ (by omega)
    · by_cases c : i = z
      · subst c; exact ⟨m, xx, t, d + 1, o, hrT⟩
      · exact hOK_loc (fun k hk => toff _ (by omega) (by omega)) (h1.2.2.2.1 i hi)
    · have e1 : T (50 + j) = S (50 + j + 1) := by rw [toff _ (by omega) (by omega), gq j (by omega)]
      obtain ⟨i, hi, ei⟩ := hS.2.2.2.2.1 (j + 1) (by omega)
      have ei : S (50 + j + 1) = nI i := ei
      have hiz : i ≠ z := fun e => by
        have := hS.2.2.2.2.2.1 (j + 1) 0 (by omega) (by omega) (by rw [show 50 + (j + 1) = 50 + j + 1 from rfl, ei, show 50 + 0 = 50 from rfl, ez, e])
        omega
      have := hP (j + 1) (by omega)
      rw [show 50 + (j + 1) = 50 + j + 1 from rfl, ei, cN_nI (by omega)] at this
      rw [e1, ei, cN_nI (by omega), pLeft_loc (S := S) (fun k hk => by rw [toff _ (by omega) (by omega), goff _ (by omega)]) (by rw [toff 203 (by omega) (by omega), goff 203 (by omega)]) (by rw [toff 207 (by omega) (by omega), goff 207 (by omega)])]
      exact this
  obtain ⟨a1, a2, a3⟩ := hT _ rfl
  -- behind the minute
  have eA : (oDrawA (S, M) q).1 = sNote (sFetch (sPump (sGo S q 0)) z (pBring (S 205))) 0 (nI z) (pBring (S 205)) := (dA_ref ez z8).symm
  have hA : IA (oDrawA (S, M) q).1 n (q - 1) := by rw [eA]; exact IA_note a1 _ _ _
  have noff : ∀ k, (k < 122 ∨ 203 ≤ k) → (oDrawA (S, M) q).1 k = sFetch (sPump (sGo S q 0)) z (pBring (S 205)) k := fun k hk => by
    rw [eA]; exact sNote_off a1.2.1.2 hk
  have lz : lf (oDrawA (S, M) q).1 z = lf S z - 1 := by
    have e1 : pLeft (oDrawA (S, M) q).1 z = pLeft (sFetch (sPump (sGo S q 0)) z (pBring (S 205))) z := pLeft_loc (fun k hk => noff _ (by omega)) (noff 203 (by omega)) (noff 207 (by omega))
    have e2 := left_n a2 (law := law) (b := b) (by rw [a3 203 (by omega) (by omega), goff 203 (by omega)]; exact hlw) hl3 (by rw [a3 207 (by omega) (by omega), goff 207 (by omega)]; exact hb)
    unfold lf
    rw [e1, e2, elz, cN_nI (by omega), cN_nI (by omega)]
    omega
  have lS : lf S z = tuN b law m t - d - o := by unfold lf; rw [elz, cN_nI (by omega)]
  -- the sum of those behind
  have sA : sL (oDrawA (S, M) q).1 (q - 1) + lf S z = sL S q := by
    have key : ∀ j, j < q - 1 → lf (oDrawA (S, M) q).1 (cN ((oDrawA (S, M) q).1 (50 + j))) = lf S (cN (S (50 + (j + 1)))) := fun j hj => by
      have e1 : (oDrawA (S, M) q).1 (50 + j) = S (50 + (j + 1)) := by rw [noff _ (by omega), a3 _ (by omega) (by omega), gq j (by omega)]; rfl
      obtain ⟨i, hi, ei⟩ := hS.2.2.2.2.1 (j + 1) (by omega)
      have hiz : i ≠ z := fun e => by
        have := hS.2.2.2.2.2.1 (j + 1) 0 (by omega) (by omega) (by rw [ei, show 50 + 0 = 50 from rfl, ez, e])
        omega
      rw [e1, ei, cN_nI (by omega)]
      unfold lf
      rw [pLeft_loc (S := S) (fun k' hk => by rw [noff _ (by omega), a3 _ (by omega) (by omega), goff _ (by omega)]) (by rw [noff 203 (by omega), a3 203 (by omega) (by omega), goff 203 (by omega)]) (by rw [noff 207 (by omega), a3 207 (by omega) (by omega), goff 207 (by omega)])]
    have k1 : sL (oDrawA (S, M) q).1 (q - 1) = sumN (fun j => lf S (cN (S (50 + (j + 1))))) (q - 1) := sumN_ext key
    have k2 : sL S (q - 1 + 1) = lf S (cN (S (50 + 0))) + sumN (fun j => lf S (cN (S (50 + (j + 1))))) (q - 1) := sumN_shift
    have k3 : lf S (cN (S (50 + 0))) = lf S z := by rw [show 50 + 0 = 50 from rfl, ez, cN_nI (by omega)]
    rw [show q - 1 + 1 = q by omega] at k2
    omega
  by_cases c : pLeft (oDrawA (S, M) q).1 z ≤ 0
  · rw [draw1_no ez z8 c]
    refine ⟨q - 1, hA, ?_⟩
    have h0 : lf (oDrawA (S, M) q).1 z = 0 := by
      rcases Nat.eq_zero_or_pos (lf (oDrawA (S, M) q).1 z) with e | e
      · exact e
      · have := lf_n hA z8
        rw [this.1] at c
        exact absurd c (nI_nle e (by omega))
    omega
  · rw [draw1_yes ez z8 c]
    have hp : 1 ≤ pLeft (oDrawA (S, M) q).1 z := by
      have := lf_n hA z8
      rw [this.1] at c ⊢
      have h0 := nI_gt0 c
      exact (nI_le1 (by omega)).mpr h0
    have hnew : ∀ j, j < q - 1 → (oDrawA (S, M) q).1 (50 + j) ≠ nI z := fun j hj e => by
      rw [noff _ (by omega), a3 _ (by omega) (by omega), gq j (by omega)] at e
      have := hS.2.2.2.2.2.1 (j + 1) 0 (by omega) (by omega) (by rw [show 50 + (j + 1) = 50 + j + 1 from rfl, e, show 50 + 0 = 50 from rfl, ez])
      omega
    have hc := IA_come hA hz hnew hp
    refine ⟨q - 1 + 1, hc, ?_⟩
    have coff : ∀ k, (k < 49 ∨ 58 ≤ k) → sCome (oDrawA (S, M) q).1 (q - 1) z k = (oDrawA (S, M) q).1 k := fun k hk => sCome_off (by omega) hk
    have lfc : ∀ i, i < 8 → lf (sCome (oDrawA (S, M) q).1 (q - 1) z) i = lf (oDrawA (S, M) q).1 i := fun i hi => by
      unfold lf
      rw [pLeft_loc (S := (oDrawA (S, M) q).1) (fun k hk => coff _ (by omega)) (coff 203 (by omega)) (coff 207 (by omega))]
    have e1 : sumN (fun j => lf (sCome (oDrawA (S, M) q).1 (q - 1) z) (cN (sCome (oDrawA (S, M) q).1 (q - 1) z (50 + j)))) (q - 1) = sL (oDrawA (S, M) q).1 (q - 1) := sumN_ext fun j hj => by
      have e2 : sCome (oDrawA (S, M) q).1 (q - 1) z (50 + j) = (oDrawA (S, M) q).1 (50 + j) := by
        unfold sCome
        rw [updn (by omega), updn (by omega)]
      obtain ⟨i, hi, ei⟩ := hA.1.2.2.2.2.1 j hj
      rw [e2, ei, cN_nI (by omega)]
      exact lfc i (by omega)
    have e3 : sCome (oDrawA (S, M) q).1 (q - 1) z (50 + (q - 1)) = nI z := by
      unfold sCome
      rw [updn (by omega), upds rfl]
    have e4 : sL (sCome (oDrawA (S, M) q).1 (q - 1) z) (q - 1 + 1) = sumN (fun j => lf (sCome (oDrawA (S, M) q).1 (q - 1) z) (cN (sCome (oDrawA (S, M) q).1 (q - 1) z (50 + j)))) (q - 1) + lf (sCome (oDrawA (S, M) q).1 (q - 1) z) (cN (sCome (oDrawA (S, M) q).1 (q - 1) z (50 + (q - 1)))) := rfl
    have e5 : lf (sCome (oDrawA (S, M) q).1 (q - 1) z) (cN (sCome (oDrawA (S, M) q).1 (q - 1) z (50 + (q - 1)))) = lf (oDrawA (S, M) q).1 z := by rw [e3, cN_nI (by omega)]; exact lfc z z8
    have e6 : 1 ≤ lf (oDrawA (S, M) q).1 z := by
      have := lf_n hA z8
      rw [this.1] at hp
      exact (nI_le1 (by omega)).mp hp
    show sL (sCome (oDrawA (S, M) q).1 (q - 1) z) (q - 1 + 1) + 1 = sL S q
    omega
