/-! ===== the class's own object ===== -/
def ppB (o a b n h r t w : Nat) (hs lf : Int32) : va_W := [(o, .inr (12, [.ref a, .ref b, .ref n, .int hs, .ref h, .ref r, .ref t, .int lf, .ref w]))]
theorem jo_i {S : pS} {n q : Nat} {v : Int32} (hA : IA S n q) (hW : (wJoin S v).1 = 0) : ∃ i, i < n ∧ v = nI i ∧ ∀ j, j < q → S (50 + j) ≠ nI i := by
  have hn := hA.1.2.1
  have hh : pHas v n = true := by
    rw [wJoin_e hA.1] at hW
    by_cases c : pHas v n = true
    · exact c
    · rw [if_neg c] at hW; exact absurd (show (3 : Int32) = 0 from hW) (by decide)
  obtain ⟨i, hi, rfl⟩ := (pHas_iff (by omega)).mp hh
  exact ⟨i, hi, rfl, jo_no hA.1 hi hW⟩
theorem wB_z {W : Int32 × Int32} (h : wB W = false) : W.1 = 0 := by
  unfold wB at h
  exact Decidable.byContradiction (fun c => by rw [decide_eq_true c] at h; exact absurd h (by decide))
theorem wB_nz {W : Int32 × Int32} (h : wB W = true) : ¬ W.1 = 0 := by
  unfold wB at h
  exact of_decide_eq_true h
