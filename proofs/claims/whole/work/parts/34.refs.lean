/-! ===== the reference's reader ===== -/
def sg (ch : pS) (z t : Nat) : Int32 := if t < z then ch t else -1
theorem sg_t {ch : pS} {z t : Nat} (h : t < z) : ch t = sg ch z t := by rw [sg, if_pos h]
theorem sg_f {ch : pS} {z t : Nat} (h : ¬ t < z) : -1 = sg ch z t := by rw [sg, if_neg h]
def rd (ch : pS) (z : Nat) (lo hi : Int32) (t : Nat) (w : Int32) : Int32 × Nat × Int32 := if w = -1 ∧ pIn (sg ch z t) lo hi = true then (ch t - 48, t + 1, w) else (0, t, if w = -1 then nI t else w)
theorem rd_y {ch : pS} {z t : Nat} {lo hi w : Int32} (h1 : w = -1) (h2 : pIn (sg ch z t) lo hi = true) : rd ch z lo hi t w = (ch t - 48, t + 1, w) := by rw [rd, if_pos ⟨h1, h2⟩]
theorem rd_n1 {ch : pS} {z t : Nat} {lo hi w : Int32} (h1 : ¬ w = -1) : rd ch z lo hi t w = (0, t, w) := by rw [rd, if_neg (fun q => h1 q.1), if_neg h1]
theorem rd_n2 {ch : pS} {z t : Nat} {lo hi w : Int32} (h1 : w = -1) (h2 : pIn (sg ch z t) lo hi = false) : rd ch z lo hi t w = (0, t, nI t) := by rw [rd, if_neg (fun q => by rw [h2] at q; exact absurd q.2 (by decide)), if_pos h1]
theorem sg_in {ch : pS} {z t : Nat} {lo hi : Int32} (hlo : 0 ≤ lo) (h : pIn (sg ch z t) lo hi = true) : t < z := by
  rcases Nat.lt_or_ge t z with c | c
  · exact c
  · rw [← sg_f (by omega)] at h
    simp only [pIn, Bool.and_eq_true, decide_eq_true_eq] at h
    exact absurd (Int32.le_trans hlo h.1) (by decide)
theorem rd_le {ch : pS} {z t : Nat} {lo hi w : Int32} (hlo : 0 ≤ lo) (ht : t ≤ z) : (rd ch z lo hi t w).2.1 ≤ z ∧ t ≤ (rd ch z lo hi t w).2.1 ∧ (rd ch z lo hi t w).2.1 ≤ t + 1 := by
  unfold rd
  split
  · next c => have := sg_in hlo c.2; exact ⟨by show t + 1 ≤ z; omega, by show t ≤ t + 1; omega, by show t + 1 ≤ t + 1; omega⟩
  · exact ⟨ht, Nat.le_refl t, Nat.le_succ t⟩
def nuS (ch : pS) (z t : Nat) (w : Int32) : Int32 × Nat × Int32 := if (rd ch z 48 57 t w).2.2 = -1 ∧ pIn (sg ch z (rd ch z 48 57 t w).2.1) 48 57 = true then (10 * (rd ch z 48 57 t w).1 + (rd ch z 48 57 (rd ch z 48 57 t w).2.1 (rd ch z 48 57 t w).2.2).1, (rd ch z 48 57 (rd ch z 48 57 t w).2.1 (rd ch z 48 57 t w).2.2).2.1, (rd ch z 48 57 (rd ch z 48 57 t w).2.1 (rd ch z 48 57 t w).2.2).2.2) else rd ch z 48 57 t w
theorem nu_y {ch : pS} {z t : Nat} {w : Int32} (h1 : (rd ch z 48 57 t w).2.2 = -1) (h2 : pIn (sg ch z (rd ch z 48 57 t w).2.1) 48 57 = true) : nuS ch z t w = (10 * (rd ch z 48 57 t w).1 + (rd ch z 48 57 (rd ch z 48 57 t w).2.1 (rd ch z 48 57 t w).2.2).1, (rd ch z 48 57 (rd ch z 48 57 t w).2.1 (rd ch z 48 57 t w).2.2).2.1, (rd ch z 48 57 (rd ch z 48 57 t w).2.1 (rd ch z 48 57 t w).2.2).2.2) := by rw [nuS, if_pos ⟨h1, h2⟩]
theorem nu_1 {ch : pS} {z t : Nat} {w : Int32} (h1 : ¬ (rd ch z 48 57 t w).2.2 = -1) : nuS ch z t w = rd ch z 48 57 t w := by rw [nuS, if_neg (fun q => h1 q.1)]
theorem nu_2 {ch : pS} {z t : Nat} {w : Int32} (h2 : pIn (sg ch z (rd ch z 48 57 t w).2.1) 48 57 = false) : nuS ch z t w = rd ch z 48 57 t w := by rw [nuS, if_neg (fun q => by rw [h2] at q; exact absurd q.2 (by decide))]
theorem nu_le {ch : pS} {z t : Nat} {w : Int32} (ht : t ≤ z) : (nuS ch z t w).2.1 ≤ z ∧ t ≤ (nuS ch z t w).2.1 := by
  have a := rd_le (ch := ch) (w := w) (lo := 48) (hi := 57) (by decide) ht
  unfold nuS
  split
  · have b := rd_le (ch := ch) (w := (rd ch z 48 57 t w).2.2) (lo := 48) (hi := 57) (by decide) a.1
    exact ⟨b.1, Nat.le_trans a.2.1 b.2.1⟩
  · exact ⟨a.1, a.2.1⟩
/-- a command read at t: its number, the place behind it, what is wrong -/
def rcS (ch : pS) (z t : Nat) : Int32 × Nat × Int32 := if pLet (sg ch z t) = 1 then rd ch z 48 57 (t + 1) (-1) else if pLet (sg ch z t) = 2 then nuS ch z (t + 1) (-1) else if pLet (sg ch z t) = 4 then (0, t + 1, -1) else (0, t, nI t)
theorem rc_1 {ch : pS} {z t : Nat} (h : pLet (sg ch z t) = 1) : rcS ch z t = rd ch z 48 57 (t + 1) (-1) := by rw [rcS, if_pos h]
theorem rc_2 {ch : pS} {z t : Nat} (h : pLet (sg ch z t) = 2) : rcS ch z t = nuS ch z (t + 1) (-1) := by rw [rcS, h, if_neg (by decide), if_pos rfl]
theorem rc_4 {ch : pS} {z t : Nat} (h : pLet (sg ch z t) = 4) : rcS ch z t = (0, t + 1, -1) := by rw [rcS, h, if_neg (by decide), if_neg (by decide), if_pos rfl]
theorem rc_n {ch : pS} {z t : Nat} (h : pLet (sg ch z t) = -1) : rcS ch z t = (0, t, nI t) := by rw [rcS, h, if_neg (by decide), if_neg (by decide), if_neg (by decide)]
theorem pLet_z {ch : pS} {z t : Nat} (h : ¬ pLet (sg ch z t) = -1) : t < z := by
  rcases Nat.lt_or_ge t z with c | c
  · exact c
  · rw [← sg_f (by omega)] at h; exact absurd (by decide) h
theorem pLet_vals (c : Int32) : pLet c = 1 ∨ pLet c = 2 ∨ pLet c = 4 ∨ pLet c = -1 := by
  unfold pLet
  split
  · exact Or.inl rfl
  · split
    · exact Or.inr (Or.inl rfl)
    · split
      · exact Or.inr (Or.inr (Or.inl rfl))
      · exact Or.inr (Or.inr (Or.inr rfl))
theorem rc_le {ch : pS} {z t : Nat} (hz : z ≤ 60) (ht : t ≤ z) : (rcS ch z t).2.1 ≤ z ∧ t ≤ (rcS ch z t).2.1 ∧ ((rcS ch z t).2.2 = -1 → t + 1 ≤ (rcS ch z t).2.1) := by
  rcases pLet_vals (sg ch z t) with h | h | h | h
  · have c := pLet_z (ch := ch) (z := z) (t := t) (by rw [h]; decide)
    rw [rc_1 h]
    have a := rd_le (ch := ch) (w := -1) (lo := 48) (hi := 57) (by decide) (show t + 1 ≤ z from c)
    exact ⟨a.1, by omega, fun _ => a.2.1⟩
  · have c := pLet_z (ch := ch) (z := z) (t := t) (by rw [h]; decide)
    rw [rc_2 h]
    have a := nu_le (ch := ch) (w := -1) (show t + 1 ≤ z from c)
    exact ⟨a.1, by omega, fun _ => a.2⟩
  · have c := pLet_z (ch := ch) (z := z) (t := t) (by rw [h]; decide)
    rw [rc_4 h]
    exact ⟨c, Nat.le_succ t, fun _ => Nat.le_refl _⟩
  · rw [rc_n h]
    refine ⟨ht, Nat.le_refl t, fun e => ?_⟩
    exact absurd (show nI t = -1 from e) (nI_nm1 (by omega))
def raSt (ch : pS) (z t k : Nat) (K U : pS) : Nat × Int32 × Nat × pS × pS := ((rcS ch z t).2.1, (rcS ch z t).2.2, k + 1, upd K k (sg ch z t), upd U k (rcS ch z t).1)
/-- commands read on, from behind one -/
def raS (ch : pS) (z : Nat) : Nat → Nat → Int32 → Nat → pS → pS → Nat × Int32 × Nat × pS × pS
  | 0, t, w, k, K, U => (t, w, k, K, U)
  | f + 1, t, w, k, K, U => if w = -1 ∧ t < z then (if (rd ch z 59 59 t w).2.2 = -1 then raS ch z f (raSt ch z (rd ch z 59 59 t w).2.1 k K U).1 (raSt ch z (rd ch z 59 59 t w).2.1 k K U).2.1 (raSt ch z (rd ch z 59 59 t w).2.1 k K U).2.2.1 (raSt ch z (rd ch z 59 59 t w).2.1 k K U).2.2.2.1 (raSt ch z (rd ch z 59 59 t w).2.1 k K U).2.2.2.2 else (t, (rd ch z 59 59 t w).2.2, k, K, U)) else (t, w, k, K, U)
theorem ra_x {ch : pS} {z f t k : Nat} {w : Int32} {K U : pS} (h : ¬ (w = -1 ∧ t < z)) : raS ch z f t w k K U = (t, w, k, K, U) := by
  cases f with
  | zero => rfl
  | succ f => rw [raS, if_neg h]
theorem ra_n {ch : pS} {z f t k : Nat} {w : Int32} {K U : pS} (h1 : w = -1) (h2 : t < z) (h3 : ¬ (rd ch z 59 59 t w).2.2 = -1) : raS ch z (f + 1) t w k K U = (t, (rd ch z 59 59 t w).2.2, k, K, U) := by
  rw [raS, if_pos ⟨h1, h2⟩, if_neg h3]
theorem ra_y {ch : pS} {z f t k : Nat} {w : Int32} {K U : pS} (h1 : w = -1) (h2 : t < z) (h3 : (rd ch z 59 59 t w).2.2 = -1) : raS ch z (f + 1) t w k K U = raS ch z f (rcS ch z (rd ch z 59 59 t w).2.1).2.1 (rcS ch z (rd ch z 59 59 t w).2.1).2.2 (k + 1) (upd K k (sg ch z (rd ch z 59 59 t w).2.1)) (upd U k (rcS ch z (rd ch z 59 59 t w).2.1).1) := by
  rw [raS, if_pos ⟨h1, h2⟩, if_pos h3]
  rfl
theorem rd_ok {ch : pS} {z t : Nat} {lo hi w : Int32} (hz : z ≤ 60) (ht : t ≤ z) (h1 : w = -1) (h3 : (rd ch z lo hi t w).2.2 = -1) : (rd ch z lo hi t w).2.1 = t + 1 := by
  cases e : pIn (sg ch z t) lo hi
  · rw [rd_n2 h1 e] at h3
    exact absurd (show nI t = -1 from h3) (nI_nm1 (by omega))
  · rw [rd_y h1 e]
theorem rd_no {ch : pS} {z t : Nat} {lo hi w : Int32} (h1 : w = -1) (h3 : ¬ (rd ch z lo hi t w).2.2 = -1) : (rd ch z lo hi t w).2.1 = t := by
  cases e : pIn (sg ch z t) lo hi
  · rw [rd_n2 h1 e]
  · rw [rd_y h1 e] at h3
    exact absurd h1 h3
/-- the whole text read -/
def raA (ch : pS) (z : Nat) (K U : pS) : Nat × Int32 × Nat × pS × pS := raS ch z 61 (rcS ch z 0).2.1 (rcS ch z 0).2.2 1 (upd K 0 (sg ch z 0)) (upd U 0 (rcS ch z 0).1)
