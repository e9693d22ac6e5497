/-! ===== the class's own object ===== -/
def ppB (o a b n h r t w : Nat) (hs lf : Int32) : va_W := [(o, .inr (12, [.ref a, .ref b, .ref n, .int hs, .ref h, .ref r, .ref t, .int lf, .ref w]))]
theorem jo_i {S : pS} {n q : Nat} {v : Int32} (hA : IA S n q) (hW : (wJoin S v).1 = 0) : ∃ i, i < n ∧ v = nI i ∧ ∀ j, j < q → S (50 + j) ≠ nI i := by
  have hn := hA.1.2.1
  have hh : pHas v n = true := by
    rw [wJoin_e hA.1] at hW
    by_cases c : pHas v n = true
    · exact c
    · rw [if_neg c] at hW; exact absurd (show (3 : Int32) = 0 from hW) (by decide)
  obtain ⟨i, hi, rfl⟩ := (pHas_iff (by omega)).mp hh
  exact ⟨i, hi, rfl, jo_no hA.1 hi hW⟩
theorem wB_z {W : Int32 × Int32} (h : wB W = false) : W.1 = 0 := by
  unfold wB at h
  exact Decidable.byContradiction (fun c => by rw [decide_eq_true c] at h; exact absurd h (by decide))
theorem wB_nz {W : Int32 × Int32} (h : wB W = true) : ¬ W.1 = 0 := by
  unfold wB at h
  exact of_decide_eq_true h
theorem le_i {S : pS} {n q : Nat} {v : Int32} (hA : IA S n q) (hW : (wLeave S v).1 = 0) : ∃ i, i < n ∧ v = nI i ∧ ∃ u, u < q ∧ pPl S (nI i) q = nI u ∧ S (50 + u) = nI i := by
  have hn := hA.1.2.1
  have hh : pHas v n = true := by
    rw [wLeave_e hA.1] at hW
    by_cases c : pHas v n = true
    · exact c
    · rw [if_neg c] at hW; exact absurd (show (3 : Int32) = 0 from hW) (by decide)
  obtain ⟨i, hi, rfl⟩ := (pHas_iff (by omega)).mp hh
  refine ⟨i, hi, rfl, ?_⟩
  rcases pPl_cases S (nI i) q with e | h
  · rw [wLeave_e hA.1, if_pos hh, if_pos e] at hW
    exact absurd (show (5 : Int32) = 0 from hW) (by decide)
  · exact h
theorem dr_i {S : pS} {n q : Nat} {v : Int32} (hA : IA S n q) (hW : (wDraw S v).1 = 0) : ∃ j, j ≤ 50 ∧ v = nI j := by
  rw [wDraw_e hA.1] at hW
  by_cases c : pIn v 1 50 = true
  · obtain ⟨j, -, hj, e⟩ := pIn_nat (k := 50) (by omega) c
    exact ⟨j, hj, e⟩
  · rw [if_neg c] at hW; exact absurd (show (1 : Int32) = 0 from hW) (by decide)
theorem rain_w5 {ty : Nat → ClassId} {a : Nat → Nat} {S M : pS} {v : Int32} : [stB a S, lnB ty a S, quB ty a S, weB a (upd S 208 v), miB ty a M] = [stB a (upd S 208 v), lnB ty a (upd S 208 v), quB ty a (upd S 208 v), weB a (upd S 208 v), miB ty a M] :=
  w5 rfl (lnB_ext fun i hi => (updn (by omega)).symm) (quB_ext fun i h1 h2 => (updn (by omega)).symm) rfl rfl
theorem coin_w5 {ty : Nat → ClassId} {a : Nat → Nat} {S M : pS} {v : Int32} : [stB a (upd S 209 v), lnB ty a S, quB ty a S, weB a S, miB ty a M] = [stB a (upd S 209 v), lnB ty a (upd S 209 v), quB ty a (upd S 209 v), weB a (upd S 209 v), miB ty a M] :=
  w5 rfl (lnB_ext fun i hi => (updn (by omega)).symm) (quB_ext fun i h1 h2 => (updn (by omega)).symm) (weB_ext fun i hi => (updn (by omega)).symm) rfl
theorem h10 {x y : va_W} {A B C : List va_W} (h : A = B) : x :: y :: (A ++ C) = x :: y :: (B ++ C) := by rw [h]
theorem house_w5 {ty : Nat → ClassId} {a : Nat → Nat} {S M : pS} {n : Nat} {x y t : Int32} (hn : n < 8) : [stB a S, lnB ty a (sHouse S n x y t), quB ty a S, weB a S, miB ty a M] = [stB a (sHouse S n x y t), lnB ty a (sHouse S n x y t), quB ty a (sHouse S n x y t), weB a (sHouse S n x y t), miB ty a M] := by
  have off : ∀ i, 49 ≤ i → sHouse S n x y t i = S i := fun i hi => by
    unfold sHouse
    rw [updn (by omega), updn (by omega), updn (by omega), updn (by omega)]
  exact w5 (stB_ext (off _ (by omega)).symm (off _ (by omega)).symm (off _ (by omega)).symm) rfl (quB_ext fun i h1 h2 => (off _ (by omega)).symm) (weB_ext fun i hi => (off _ (by omega)).symm) rfl
theorem pIn_no8 {x : Int32} (h : ∀ j, j ≤ 8 → ¬ x = nI j) : pIn x 0 8 = false := by
  cases e : pIn x 0 8
  · rfl
  · obtain ⟨j, hj, e2⟩ := pIn_nat0 (k := 8) (by omega) e
    exact absurd e2 (h j hj)
theorem pIn_no15 {x : Int32} (h : ∀ j, j ≤ 15 → ¬ x = nI j) : pIn x 0 15 = false := by
  cases e : pIn x 0 15
  · rfl
  · obtain ⟨j, hj, e2⟩ := pIn_nat0 (k := 15) (by omega) e
    exact absurd e2 (h j hj)
def acF (sz ln : Int32) : pS := fun k => if k = 6 then sz else ln
