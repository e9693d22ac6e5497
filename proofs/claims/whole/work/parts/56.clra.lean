/-! ===== the class's reader is the reference's ===== -/
theorem clR_end {ch : pS} {z cn : Nat} {e : Int32} {le nu : Nat → Int32} (h : ¬ (e = 3 ∨ e = 4)) : (clR ch z (z - z) z e cn le nu).1 = nI z := by
  rw [Nat.sub_self, clR, if_neg h]
theorem clR_bad {ch : pS} {z k cn : Nat} {e : Int32} {le nu : Nat → Int32} (hk : k ≤ z) (h : k < z → pEx e (ch k) = -1) (he : ¬ (e = 3 ∨ e = 4)) : (clR ch z (z - k) k e cn le nu).1 = nI k := by
  rcases Nat.lt_or_ge k z with c | c
  · rw [clR_f c (h c)]
  · have : k = z := by omega
    subst this
    exact clR_end he
theorem clR_let {ch : pS} {z t k : Nat} {le nu : Nat → Int32} (ht : t < z) (h : ¬ pLet (ch t) = -1) : clR ch z (z - t) t 0 k le nu = clR ch z (z - (t + 1)) (t + 1) (pLet (ch t)) (k + 1) (upd le k (ch t)) (upd nu k 0) := by
  rw [clR_s ht (by rw [← pEx_0 rfl]; exact h), ← pEx_0 rfl, clT_0 rfl]
theorem clR_dig {ch : pS} {z t k : Nat} {e e2 : Int32} {le nu : Nat → Int32} {v : Int32} (ht : t < z) (h0 : ¬ e = 0) (hd : pIn (ch t) 48 57 = true) (he : pEx e (ch t) = e2) (h2 : ¬ e2 = -1) : clR ch z (z - t) t e (k + 1) le (upd nu k v) = clR ch z (z - (t + 1)) (t + 1) e2 (k + 1) le (upd nu k (v * 10 + (ch t - 48))) := by
  rw [clR_s ht (by rw [he]; exact h2), he, clT_1 h0 hd (Nat.succ_pos k)]
  show clR ch z (z - (t + 1)) (t + 1) e2 (k + 1) le (upd (upd nu k v) k (upd nu k v k * 10 + (ch t - 48))) = _
  rw [upds rfl, upd_upd]
theorem dig_0 (c : Int32) : 0 * 10 + (c - 48) = c - 48 := by
  rw [Int32.zero_mul, Int32.zero_add]
theorem cl_cmd {ch : pS} {z t k : Nat} {le nu : Nat → Int32} (hz : z ≤ 60) (ht : t ≤ z) :
    ((rcS ch z t).2.2 = -1 → ∃ e2 : Int32, ((e2 = 3 ∧ pIn (sg ch z (rcS ch z t).2.1) 48 57 = false) ∨ e2 = 4) ∧ clR ch z (z - t) t 0 k le nu = clR ch z (z - (rcS ch z t).2.1) (rcS ch z t).2.1 e2 (k + 1) (upd le k (sg ch z t)) (upd nu k (rcS ch z t).1)) ∧
    (¬ (rcS ch z t).2.2 = -1 → (clR ch z (z - t) t 0 k le nu).1 = (rcS ch z t).2.2) := by
  have bad : ∀ (u cn : Nat) (e : Int32) (le nu : Nat → Int32), u ≤ z → ¬ e = 0 → ¬ (e = 3 ∨ e = 4) → (e = 1 ∨ e = 2) → pIn (sg ch z u) 48 57 = false → (clR ch z (z - u) u e cn le nu).1 = nI u := fun u cn e le nu hu h0 h34 h12 hs => by
    refine clR_bad hu (fun c => ?_) h34
    rw [← sg_t (ch := ch) c] at hs
    rcases h12 with rfl | rfl
    · exact (pEx_1 (by decide) rfl (-1) (by rw [if_neg (by rw [hs]; decide)])).symm
    · exact (pEx_2 (by decide) (by decide) rfl (-1) (by rw [if_neg (by rw [hs]; decide)])).symm
  rcases pLet_vals (sg ch z t) with h | h | h | h
  · have c := pLet_z (ch := ch) (z := z) (t := t) (by rw [h]; decide)
    have hc : pLet (ch t) = 1 := by rw [sg_t (ch := ch) c]; exact h
    rw [rc_1 h, clR_let c (by rw [hc]; decide), hc]
    cases hs : pIn (sg ch z (t + 1)) 48 57
    · rw [rd_n2 rfl hs]
      exact ⟨fun q => absurd (show nI (t + 1) = -1 from q) (nI_nm1 (by omega)), fun _ => bad (t + 1) _ 1 _ _ c (by decide) (by decide) (Or.inl rfl) hs⟩
    · have c2 := sg_in (by decide) hs
      rw [rd_y rfl hs]
      refine ⟨fun _ => ⟨4, Or.inr rfl, ?_⟩, fun q => absurd rfl q⟩
      rw [← sg_t c2] at hs
      rw [clR_dig c2 (by decide) hs (pEx_1 (by decide) rfl 4 (by rw [if_pos hs])).symm (by decide), dig_0, ← sg_t c]
  · have c := pLet_z (ch := ch) (z := z) (t := t) (by rw [h]; decide)
    have hc : pLet (ch t) = 2 := by rw [sg_t (ch := ch) c]; exact h
    rw [rc_2 h, clR_let c (by rw [hc]; decide), hc]
    cases hs : pIn (sg ch z (t + 1)) 48 57
    · have e1 : rd ch z 48 57 (t + 1) (-1) = (0, t + 1, nI (t + 1)) := rd_n2 rfl hs
      rw [nu_1 (by rw [e1]; exact nI_nm1 (by omega)), e1]
      exact ⟨fun q => absurd (show nI (t + 1) = -1 from q) (nI_nm1 (by omega)), fun _ => bad (t + 1) _ 2 _ _ c (by decide) (by decide) (Or.inr rfl) hs⟩
    · have c2 := sg_in (by decide) hs
      have e1 : rd ch z 48 57 (t + 1) (-1) = (ch (t + 1) - 48, t + 2, -1) := rd_y rfl hs
      have hs1 := hs
      rw [← sg_t c2] at hs1
      rw [clR_dig c2 (by decide) hs1 (pEx_2 (by decide) (by decide) rfl 3 (by rw [if_pos hs1])).symm (by decide), dig_0]
      cases hs2 : pIn (sg ch z (t + 2)) 48 57
      · rw [nu_2 (by rw [e1]; exact hs2), e1, ← sg_t c]
        exact ⟨fun _ => ⟨3, Or.inl ⟨rfl, hs2⟩, rfl⟩, fun q => absurd rfl q⟩
      · have c3 := sg_in (by decide) hs2
        have e2 : rd ch z 48 57 (t + 2) (-1) = (ch (t + 2) - 48, t + 3, -1) := rd_y rfl hs2
        rw [nu_y (by rw [e1]) (by rw [e1]; exact hs2), e1]
        simp only []
        rw [e2, ← sg_t c]
        have hs3 := hs2
        rw [← sg_t c3] at hs3
        refine ⟨fun _ => ⟨4, Or.inr rfl, ?_⟩, fun q => absurd rfl q⟩
        rw [clR_dig c3 (by decide) hs3 (pEx_3 (by decide) (by decide) (by decide) rfl 4 (by rw [if_pos hs3])).symm (by decide), Int32.mul_comm (ch (t + 1) - 48) 10]
  · have c := pLet_z (ch := ch) (z := z) (t := t) (by rw [h]; decide)
    have hc : pLet (ch t) = 4 := by rw [sg_t (ch := ch) c]; exact h
    rw [rc_4 h, clR_let c (by rw [hc]; decide), hc, ← sg_t c]
    exact ⟨fun _ => ⟨4, Or.inr rfl, rfl⟩, fun q => absurd rfl q⟩
  · rw [rc_n h]
    refine ⟨fun q => absurd (show nI t = -1 from q) (nI_nm1 (by omega)), fun _ => clR_bad ht (fun c => ?_) (by decide)⟩
    rw [← pEx_0 rfl, sg_t (ch := ch) c]
    exact h
theorem pIn_59 {c : Int32} (h : pIn c 59 59 = true) : c = 59 := by
  simp only [pIn, Bool.and_eq_true, decide_eq_true_eq] at h
  exact Int32.le_antisymm h.2 h.1
theorem pIn_n59 {c : Int32} (h : pIn c 59 59 = false) : ¬ c = 59 := fun e => by
  rw [e] at h
  exact absurd h (by decide)
theorem cl_ra {ch : pS} {z : Nat} (hz : z ≤ 60) : ∀ (f t k : Nat) (K U le nu : Nat → Int32) (e2 : Int32), z - t < f → t ≤ z → (∀ j, j < k → le j = K j ∧ nu j = U j) → ((e2 = 3 ∧ pIn (sg ch z t) 48 57 = false) ∨ e2 = 4) →
    (clR ch z (z - t) t e2 k le nu).1 = (raS ch z f t (-1) k K U).2.1 ∧ ((raS ch z f t (-1) k K U).2.1 = -1 → (clR ch z (z - t) t e2 k le nu).2.1 = (raS ch z f t (-1) k K U).2.2.1 ∧ ∀ j, j < (raS ch z f t (-1) k K U).2.2.1 → (clR ch z (z - t) t e2 k le nu).2.2.1 j = (raS ch z f t (-1) k K U).2.2.2.1 j ∧ (clR ch z (z - t) t e2 k le nu).2.2.2 j = (raS ch z f t (-1) k K U).2.2.2.2 j)
  | 0, t, k, K, U, le, nu, e2, hf, _, _, _ => absurd hf (by omega)
  | f + 1, t, k, K, U, le, nu, e2, hf, ht, hag, he => by
    have e34 : e2 = 3 ∨ e2 = 4 := he.elim (fun q => Or.inl q.1) Or.inr
    have e0 : ¬ e2 = 0 := fun q => by rcases e34 with r | r <;> (rw [q] at r; exact absurd r (by decide))
    rcases Nat.lt_or_ge t z with c | c
    · cases hs : pIn (sg ch z t) 59 59
      · have e1 : rd ch z 59 59 t (-1) = (0, t, nI t) := rd_n2 rfl hs
        have hn := pIn_n59 hs
        rw [← sg_t c] at hn
        have hp : pEx e2 (ch t) = -1 := by
          rcases he with ⟨rfl, hd⟩ | rfl
          · rw [← sg_t c] at hd
            exact (pEx_3 (by decide) (by decide) (by decide) rfl (-1) (by rw [if_neg (by rw [hd]; decide), if_neg hn])).symm
          · exact (pEx_4 (by decide) (by decide) (by decide) (by decide) (-1) (by rw [if_neg hn])).symm
        rw [ra_n rfl c (by rw [e1]; exact nI_nm1 (by omega)), e1, clR_f c hp]
        exact ⟨rfl, fun q => absurd (show nI t = -1 from q) (nI_nm1 (by omega))⟩
      · have e1 : rd ch z 59 59 t (-1) = (ch t - 48, t + 1, -1) := rd_y rfl hs
        have hn := pIn_59 hs
        rw [← sg_t c] at hn
        have hp : pEx e2 (ch t) = 0 := by
          rcases he with ⟨rfl, hd⟩ | rfl
          · rw [← sg_t c] at hd
            exact (pEx_3 (by decide) (by decide) (by decide) rfl 0 (by rw [if_neg (by rw [hd]; decide), if_pos hn])).symm
          · exact (pEx_4 (by decide) (by decide) (by decide) (by decide) 0 (by rw [if_pos hn])).symm
        have hT : clT e2 (ch t) k le nu = (k, le, nu) := clT_2 e0 (fun q => by rw [hn] at q; exact absurd q.1 (by decide))
        have hC : clR ch z (z - t) t e2 k le nu = clR ch z (z - (t + 1)) (t + 1) 0 k le nu := by
          rw [clR_s c (by rw [hp]; decide), hp, hT]
        rw [hC, ra_y rfl c (by rw [e1]), e1]
        simp only []
        obtain ⟨g1, g2⟩ := cl_cmd (ch := ch) (k := k) (le := le) (nu := nu) hz (show t + 1 ≤ z from c)
        have gl := rc_le (ch := ch) hz (show t + 1 ≤ z from c)
        by_cases hw : (rcS ch z (t + 1)).2.2 = -1
        · obtain ⟨e3, h3, hR⟩ := g1 hw
          rw [hR, hw]
          exact cl_ra hz f _ (k + 1) _ _ _ _ e3 (by have := gl.2.1; omega) gl.1 (fun j hj => by
            by_cases q : j = k
            · subst q; exact ⟨(upds rfl).trans (upds rfl).symm, (upds rfl).trans (upds rfl).symm⟩
            · rw [updn q, updn q, updn q, updn q]; exact hag j (by omega)) h3
        · rw [ra_x (fun q => hw q.1)]
          exact ⟨g2 hw, fun q => absurd q hw⟩
    · have : t = z := by omega
      subst this
      rw [ra_x (fun q => absurd q.2 (by omega)), Nat.sub_self, clR, if_pos e34]
      exact ⟨rfl, fun _ => ⟨rfl, hag⟩⟩
/-- class and reference read alike -/
theorem cl_read {ch : pS} {z : Nat} {K U le nu : Nat → Int32} (hz : z ≤ 60) : (clR ch z z 0 0 0 le nu).1 = (raA ch z K U).2.1 ∧ ((raA ch z K U).2.1 = -1 → (clR ch z z 0 0 0 le nu).2.1 = (raA ch z K U).2.2.1 ∧ ∀ j, j < (raA ch z K U).2.2.1 → (clR ch z z 0 0 0 le nu).2.2.1 j = (raA ch z K U).2.2.2.1 j ∧ (clR ch z z 0 0 0 le nu).2.2.2 j = (raA ch z K U).2.2.2.2 j) := by
  obtain ⟨g1, g2⟩ := cl_cmd (ch := ch) (k := 0) (le := le) (nu := nu) hz (Nat.zero_le z)
  have gl := rc_le (ch := ch) hz (Nat.zero_le z)
  rw [Nat.sub_zero] at g1 g2
  unfold raA
  by_cases hw : (rcS ch z 0).2.2 = -1
  · obtain ⟨e3, h3, hR⟩ := g1 hw
    rw [hR, hw]
    exact cl_ra hz 61 _ 1 _ _ _ _ e3 (by omega) gl.1 (fun j hj => by
      have : j = 0 := by omega
      subst this
      exact ⟨(upds rfl).trans (upds rfl).symm, (upds rfl).trans (upds rfl).symm⟩) h3
  · rw [ra_x (fun q => hw q.1)]
    exact ⟨g2 hw, fun q => absurd q hw⟩
