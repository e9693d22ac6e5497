/-! ===== the law: class and reference side by side ===== -/
def LRel (B : Nat) (S M V U : pS) (HX : Nat → pX) (z nx : Nat) (bb : Bool) (lf f0 f1 f2 : Int32) (zt n : Nat) (ch f F V0 : pS) (HA wr : Nat → Int32) : Prop :=
  (IV B (S, M) ∧ IV B (V, U) ∧ ∀ k, k < 8 → IV B (HX k)) ∧ (z ≤ 8 ∧ nx < 8 ∧ F 6 = nI z ∧ ∀ j, j < z → ∀ k, k < 215 → hAt HA j k = (HX ((nx + 8 - z + j) % 8)).1 k) ∧ (F 5 = bI bb ∧ (bb = true → ∀ k, k < 215 → V0 k = V k)) ∧ (f0 = F 8 ∧ f1 = F 9 ∧ f2 = F 10 ∧ lf = F 13) ∧ (zt ≤ 60 ∧ F 12 = nI zt ∧ ∀ k, k < zt → vp_nar .char (ch k) = ch k) ∧ (n ≤ 16 ∧ F 15 = nI n ∧ ∀ i, i < n → wr i = f i ∧ ∃ q : Nat, q < 128 ∧ f i = nI q)
theorem LRel.mono {B B' : Nat} {S M V U : pS} {HX : Nat → pX} {z nx : Nat} {bb : Bool} {lf f0 f1 f2 : Int32} {zt n : Nat} {ch f F V0 : pS} {HA wr : Nat → Int32} (h : LRel B S M V U HX z nx bb lf f0 f1 f2 zt n ch f F V0 HA wr) (hB : B ≤ B') : LRel B' S M V U HX z nx bb lf f0 f1 f2 zt n ch f F V0 HA wr :=
  ⟨⟨IV_mono h.1.1 hB, IV_mono h.1.2.1 hB, fun k hk => IV_mono (h.1.2.2 k hk) hB⟩, h.2⟩
/-- a question: the exception's place alone -/
theorem LRel.q7 {B : Nat} {S M V U : pS} {HX : Nat → pX} {z nx : Nat} {bb : Bool} {lf f0 f1 f2 : Int32} {zt n : Nat} {ch f F V0 : pS} {HA wr : Nat → Int32} {t : Int32} (h : LRel B S M V U HX z nx bb lf f0 f1 f2 zt n ch f F V0 HA wr) : LRel B S M V U HX z nx bb lf f0 f1 f2 zt n ch f (upd F 7 t) V0 HA wr := by
  have e : ∀ k, k ≠ 7 → upd F 7 t k = F k := fun k hk => updn hk
  unfold LRel
  rw [e 6 (by omega), e 5 (by omega), e 8 (by omega), e 9 (by omega), e 10 (by omega), e 13 (by omega), e 12 (by omega), e 15 (by omega)]
  exact h
theorem hKn_min {z : Nat} (h : z ≤ 8) : hKn z = min 8 (z + 1) := by
  unfold hKn
  split
  · omega
  · omega
theorem hist_push {HX : Nat → pX} {HA : Nat → Int32} {S M : pS} {z nx : Nat} (hz : z ≤ 8) (hnx : nx < 8) (h : ∀ j, j < z → ∀ k, k < 215 → hAt HA j k = (HX ((nx + 8 - z + j) % 8)).1 k) :
    ∀ j, j < min 8 (z + 1) → ∀ k, k < 215 → hAt (hKp HA S z) j k = (va_up HX nx (S, M) (((nx + 1) % 8 + 8 - min 8 (z + 1) + j) % 8)).1 k := by
  intro j hj k hk
  unfold hKp
  by_cases c : z = 8
  · subst c
    rw [if_pos rfl]
    by_cases d : j = 7
    · subst d
      rw [show ((nx + 1) % 8 + 8 - min 8 (8 + 1) + 7) % 8 = nx by omega, va_up_self]
      unfold hAt hPut
      rw [if_pos (by omega), show 7 * 215 + k - 7 * 215 = k by omega]
    · rw [show ((nx + 1) % 8 + 8 - min 8 (8 + 1) + j) % 8 = (nx + 8 - 8 + (j + 1)) % 8 by omega, va_up_ne _ _ (by omega), ← h (j + 1) (by omega) k hk]
      unfold hAt hPut shH
      rw [if_neg (by omega), if_pos (by omega), show (j + 1) * 215 + k = j * 215 + k + 215 by omega]
  · rw [if_neg c]
    by_cases d : j = z
    · subst d
      rw [show ((nx + 1) % 8 + 8 - min 8 (j + 1) + j) % 8 = nx by omega, va_up_self]
      unfold hAt hPut
      rw [if_pos (by omega), show j * 215 + k - j * 215 = k by omega]
    · rw [show ((nx + 1) % 8 + 8 - min 8 (z + 1) + j) % 8 = (nx + 8 - z + j) % 8 by omega, va_up_ne _ _ (by omega), ← h j (by omega) k hk]
      unfold hAt hPut
      rw [if_neg (by omega)]
/-- a change that is allowed -/
theorem LRel.chg {B B' : Nat} {S M V U S' M' : pS} {HX : Nat → pX} {z nx : Nat} {bb : Bool} {lf f0 f1 f2 ex cmd : Int32} {zt n : Nat} {ch f F V0 : pS} {HA wr : Nat → Int32} {W : Int32 × Int32} (h : LRel B S M V U HX z nx bb lf f0 f1 f2 zt n ch f F V0 HA wr) (hB : B ≤ B') (hW : W.1 = 0) (hI : IV B' (S', M')) :
    LRel B' S' M' V U (va_up HX nx (S, M)) (min 8 (z + 1)) ((nx + 1) % 8) bb lf f0 f1 f2 zt n ch f (enF (hnd W (upd F 16 0)) ex cmd z) V0 (hKp HA S z) wr := by
  have e0 : enF (hnd W (upd F 16 0)) ex cmd z = upd (upd (upd F 16 0) 7 0) 6 (nI (hKn z)) := by
    rw [hnd_0 hW]
    exact if_pos (upds rfl)
  have e : ∀ k, k ≠ 6 → k ≠ 7 → k ≠ 16 → enF (hnd W (upd F 16 0)) ex cmd z k = F k := fun k h1 h2 h3 => by
    rw [e0, updn h1, updn h2, updn h3]
  obtain ⟨⟨a1, a2, a3⟩, ⟨b1, b2, b3, b4⟩, c1, d1, g1⟩ := h
  unfold LRel
  rw [e 5 (by omega) (by omega) (by omega), e 8 (by omega) (by omega) (by omega), e 9 (by omega) (by omega) (by omega), e 10 (by omega) (by omega) (by omega), e 13 (by omega) (by omega) (by omega), e 12 (by omega) (by omega) (by omega), e 15 (by omega) (by omega) (by omega)]
  refine ⟨⟨hI, IV_mono a2 hB, fun k hk => ?_⟩, ⟨by omega, by omega, ?_, hist_push b1 b2 b4⟩, c1, d1, g1⟩
  · by_cases q : k = nx
    · subst q
      rw [va_up_self]
      exact IV_mono a1 hB
    · rw [va_up_ne _ _ q]
      exact IV_mono (a3 k hk) hB
  · rw [e0, upds rfl, hKn_min b1]
/-- a change that is refused -/
theorem LRel.ref {B : Nat} {S M V U : pS} {HX : Nat → pX} {z nx : Nat} {bb : Bool} {lf f0 f1 f2 ex cmd : Int32} {zt n : Nat} {ch f F V0 : pS} {HA wr : Nat → Int32} {W : Int32 × Int32} (h : LRel B S M V U HX z nx bb lf f0 f1 f2 zt n ch f F V0 HA wr) (hW : ¬ W.1 = 0) :
    LRel B S M V U HX z nx bb lf W.1 W.2 cmd zt n ch f (enF (hnd W (upd F 16 0)) ex cmd z) V0 HA wr := by
  have e0 : enF (hnd W (upd F 16 0)) ex cmd z = upd (upd (upd (upd (hnd W (upd F 16 0)) 7 ex) 8 W.1) 9 W.2) 10 cmd := by
    have h16 : hnd W (upd F 16 0) 16 = W.1 := by
      unfold hnd
      rw [if_neg hW, updn (by omega), upds rfl]
    have h17 : hnd W (upd F 16 0) 17 = W.2 := by
      unfold hnd
      rw [if_neg hW, upds rfl]
    unfold enF
    rw [h16, h17, if_neg hW]
  have e1 : ∀ k, k ≠ 16 → k ≠ 17 → hnd W (upd F 16 0) k = F k := fun k h1 h2 => by
    unfold hnd
    rw [if_neg hW, updn h2, updn h1, updn h1]
  have e : ∀ k, k ≠ 7 → k ≠ 8 → k ≠ 9 → k ≠ 10 → k ≠ 16 → k ≠ 17 → enF (hnd W (upd F 16 0)) ex cmd z k = F k := fun k h1 h2 h3 h4 h5 h6 => by
    rw [e0, updn h4, updn h3, updn h2, updn h1, e1 k h5 h6]
  obtain ⟨a1, b1, c1, ⟨d1, d2, d3, d4⟩, g1⟩ := h
  unfold LRel
  rw [e 5 (by omega) (by omega) (by omega) (by omega) (by omega) (by omega), e 6 (by omega) (by omega) (by omega) (by omega) (by omega) (by omega), e 13 (by omega) (by omega) (by omega) (by omega) (by omega) (by omega), e 12 (by omega) (by omega) (by omega) (by omega) (by omega) (by omega), e 15 (by omega) (by omega) (by omega) (by omega) (by omega) (by omega)]
  refine ⟨a1, b1, c1, ⟨?_, ?_, ?_, d4⟩, g1⟩
  · rw [e0, updn (by omega), updn (by omega), upds rfl]
  · rw [e0, updn (by omega), upds rfl]
  · rw [e0, upds rfl]
theorem en_7 {W : Int32 × Int32} {F : pS} {ex cmd : Int32} {z : Nat} : enF (hnd W (upd F 16 0)) ex cmd z 7 = if W.1 = 0 then 0 else ex := by
  unfold enF
  by_cases h : W.1 = 0
  · rw [if_pos ((hnd_z (upds rfl)).mpr h), if_pos h, updn (by omega), upds rfl]
  · rw [if_neg (fun q => h ((hnd_z (upds rfl)).mp q)), if_neg h, updn (by omega), updn (by omega), updn (by omega), upds rfl]
/-- what holds at the head of the law's loop -/
def LInv (D : va_G) (ty : Nat → ClassId) (A : Nat → Prop) (s : State) (g gm : Nat → Nat → Nat) (qo qd : Nat) (B : Nat) (H : Heap) (locs : List Loc) : Prop :=
  ∃ (S M V U : pS) (Y : pX) (HX : Nat → pX) (z nx : Nat) (bb : Bool) (lf f0 f1 f2 : Int32) (zt n : Nat) (ch f F T V0 : pS) (HA wr : Nat → Int32) (cn ml : Int32) (le nu kd ku : pS) (og : Nat → Int64) (od : Nat → UInt64),
    kW D (kTY ty) A s.heap s H locs (clW ty g (S, M) Y (V, U) HX (nI z) (nI nx) (bI bb) lf f0 f1 f2 0 (nI zt) cn ch le nu ml n f ++ moW ty gm F S T V0 HA ch wr kd ku ++ [ouB ty qo og, odB ty qd od]) ∧ LRel B S M V U HX z nx bb lf f0 f1 f2 zt n ch f F V0 HA wr
