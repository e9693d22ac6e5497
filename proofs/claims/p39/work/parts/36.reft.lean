/-! ===== the reference: texts written ===== -/
def putL (g : pS) (to_ : Nat) (L : List Int32) : pS := fun i => if to_ ≤ i ∧ i < to_ + L.length then L.getD (i - to_) 0 else g i
theorem putL_1 {g : pS} {k : Nat} {v : Int32} : upd g k v = putL g k [v] := by
  funext i
  unfold upd putL
  by_cases c : i = k
  · subst c
    rw [if_pos rfl, if_pos ⟨Nat.le_refl i, by show i < i + 1; omega⟩, Nat.sub_self]; rfl
  · rw [if_neg c, if_neg (fun q => by have h2 : i < k + 1 := q.2; omega)]
theorem putL_0 {g : pS} {k : Nat} : putL g k [] = g := by
  funext i
  unfold putL
  rw [if_neg (fun q => by have h2 : i < k + 0 := q.2; omega)]
theorem putL_app {g : pS} {k m : Nat} {L1 L2 : List Int32} (h : m = k + L1.length) : putL (putL g k L1) m L2 = putL g k (L1 ++ L2) := by
  subst h
  funext i
  unfold putL
  rw [List.length_append]
  by_cases c : k + L1.length ≤ i ∧ i < k + L1.length + L2.length
  · rw [if_pos c, if_pos (by omega), List.getD_eq_getElem?_getD, List.getD_eq_getElem?_getD, List.getElem?_append_right (by omega), show i - (k + L1.length) = i - k - L1.length by omega]
  · rw [if_neg c]
    by_cases c2 : k ≤ i ∧ i < k + L1.length
    · rw [if_pos c2, if_pos (by omega), List.getD_eq_getElem?_getD, List.getD_eq_getElem?_getD, List.getElem?_append_left (by omega)]
    · rw [if_neg c2, if_neg (by omega)]
/-- how many digits there are behind the first -/
def dgE : Nat → Nat → Nat
  | 0, _ => 0
  | f + 1, d => if d < 10 then 0 else dgE f (d / 10) + 1
def dig (d : Nat) : List Int32 := (List.range (dgE 9 d + 1)).map (fun i => nI (48 + d / 10 ^ (dgE 9 d - i) % 10))
theorem dig_len {d : Nat} : (dig d).length = dgE 9 d + 1 := by
  unfold dig
  rw [List.length_map, List.length_range]
theorem dg_e : ∀ (k f d : Nat), k ≤ f → (∀ i, i < k → 10 ≤ d / 10 ^ i) → d / 10 ^ k < 10 → dgE f d = k
  | 0, 0, d, _, _, _ => rfl
  | 0, f + 1, d, _, _, h2 => by
    rw [Nat.pow_zero, Nat.div_one] at h2
    rw [dgE, if_pos h2]
  | k + 1, 0, d, h, _, _ => absurd h (by omega)
  | k + 1, f + 1, d, h, h1, h2 => by
    have h0 := h1 0 (by omega)
    rw [Nat.pow_zero, Nat.div_one] at h0
    rw [dgE, if_neg (by omega), dg_e k f (d / 10) (by omega) (fun i hi => by
      rw [Nat.div_div_eq_div_mul, Nat.mul_comm, ← Nat.pow_succ]; exact h1 (i + 1) (by omega)) (by
      rw [Nat.div_div_eq_div_mul, Nat.mul_comm, ← Nat.pow_succ]; exact h2)]
theorem dg_b {d k : Nat} (hd : d < 10 ^ 7) (h : 10 ≤ d / 10 ^ k) : k < 6 := by
  rcases Nat.lt_or_ge k 6 with c | c
  · exact c
  · have h1 : 10 ^ 6 ≤ 10 ^ k := Nat.pow_le_pow_right (by omega) c
    have h2 : d / 10 ^ k ≤ d / 10 ^ 6 := Nat.div_le_div_left h1 (by decide)
    have h3 : d / 10 ^ 6 < 10 := by omega
    omega
theorem pw_b {k : Nat} (h : k ≤ 6) : 0 < 10 ^ k ∧ 10 ^ k ≤ 1000000 := by
  rcases (show k = 0 ∨ k = 1 ∨ k = 2 ∨ k = 3 ∨ k = 4 ∨ k = 5 ∨ k = 6 by omega) with rfl | rfl | rfl | rfl | rfl | rfl | rfl <;> decide
def pwr (x i : Nat) : Nat := if i ≤ x then 10 ^ (x - i) else 0
theorem pwr_in {x i : Nat} (h : i ≤ x) : pwr x i = 10 ^ (x - i) := if_pos h
theorem pwr_s {x i : Nat} (h : i ≤ x) : 10 ^ (x - i) / 10 = pwr x (i + 1) := by
  unfold pwr
  by_cases c : i + 1 ≤ x
  · rw [if_pos c, show x - i = (x - (i + 1)) + 1 by omega, Nat.pow_succ, Nat.mul_div_cancel _ (by omega)]
  · rw [if_neg c, show x - i = 0 by omega]
def digK (x d : Nat) (i : Nat) : List Int32 := (List.range i).map (fun j => nI (48 + d / 10 ^ (x - j) % 10))
theorem digK_s {x d i : Nat} : digK x d (i + 1) = digK x d i ++ [nI (48 + d / 10 ^ (x - i) % 10)] := by
  unfold digK
  rw [List.range_succ, List.map_append]; rfl
theorem digK_len {x d i : Nat} : (digK x d i).length = i := by
  unfold digK
  rw [List.length_map, List.length_range]
/-- the line of a minute -/
def lnT (kd d a b : Nat) : List Int32 := if kd < 2 then [100] ++ dig d ++ [32] ++ [104] ++ dig a ++ [if kd = 0 then 98 else 120] ++ dig b else if kd = 2 then [100] ++ dig d ++ [32] ++ [108] ++ [97] ++ [119] ++ dig a else [100] ++ dig d ++ [32] ++ [108] ++ [101] ++ [97] ++ [116] ++ [104] ++ [101] ++ [114]
theorem dgE_b {d : Nat} (h : d < 10 ^ 7) : dgE 9 d ≤ 6 := by
  have key : ∀ (f k d : Nat), d < 10 ^ (k + 1) → dgE f d ≤ k := by
    intro f
    induction f with
    | zero => intro k d _; exact Nat.zero_le k
    | succ f ih =>
      intro k d hd
      rw [dgE]
      split
      · exact Nat.zero_le k
      · next c =>
        cases k with
        | zero => omega
        | succ k =>
          have := ih k (d / 10) (by rw [Nat.pow_succ] at hd; omega)
          omega
  exact key 9 6 d h
/-! undo, restore, the text's end -/
def unF (F : pS) (y : Nat) : pS := if y = 0 then upd F 7 1 else upd (upd F 7 0) 6 (nI (y - 1))
def unS (HA : Nat → Int32) (S : pS) (y : Nat) : pS := if y = 0 then S else hAt HA (y - 1)
def apF (F : pS) (y : Nat) : pS := if y = 60 then upd F 7 1 else upd (upd F 7 0) 12 (nI (y + 1))
theorem pIn_hasN {h : Int32} {n : Nat} (hn : n ≤ 1000) : pIn h 0 (nI n - 1) = pHas h n := by
  have e : (h ≤ nI n - 1) = (h < nI n) := by
    apply propext
    cases n with
    | zero =>
      have a : (nI 0 - 1).toInt = -1 := by decide
      have b : (nI 0).toInt = 0 := by decide
      rw [Int32.le_iff_toInt_le, Int32.lt_iff_toInt_lt, a, b]
      omega
    | succ k =>
      rw [nI_pred, Int32.le_iff_toInt_le, Int32.lt_iff_toInt_lt, nI_toInt (by omega), nI_toInt (by omega)]
      omega
  unfold pIn pHas
  simp only [e]
def lnS (S : pS) (j : Nat) : List Int32 := lnT (cN (S (123 + 4 * j))) (cN (S (123 + 4 * j + 1))) (cN (S (123 + 4 * j + 2))) (cN (S (123 + 4 * j + 3)))
theorem lnS_e {S : pS} {j kd d a b : Nat} (h0 : S (123 + 4 * j) = nI kd) (h1 : S (123 + 4 * j + 1) = nI d) (h2 : S (123 + 4 * j + 2) = nI a) (h3 : S (123 + 4 * j + 3) = nI b) (k0 : kd ≤ 3) (k1 : d < 10 ^ 7) (k2 : a < 100) (k3 : b < 100) : lnS S j = lnT kd d a b := by
  have k1' : d < 10000000 := k1
  unfold lnS
  rw [h0, h1, h2, h3, cN_nI (by omega), cN_nI (by omega), cN_nI (by omega), cN_nI (by omega)]
/-- a minute's numbers as they can be -/
def mRow (S : pS) (j : Nat) : Prop := ∃ kd d a b : Nat, S (123 + 4 * j) = nI kd ∧ S (123 + 4 * j + 1) = nI d ∧ S (123 + 4 * j + 2) = nI a ∧ S (123 + 4 * j + 3) = nI b ∧ kd ≤ 3 ∧ d < 10 ^ 7 ∧ a < 100 ∧ b < 100
def acV (F S : pS) (x : Int32) : Int32 := if x = 0 then S 206 else if x = 1 then S 0 else if x = 2 then S 49 else if x = 3 then S 204 else if x = 4 then S 210 else if x = 5 then S 211 else if x = 6 then S 212 else if x = 7 then S 213 else if x = 8 then S 205 else if x = 9 then S 209 else if x = 10 then S 203 else if x = 11 then S 208 else if x = 12 then S 207 else if x = 13 then S 122 else if x = 14 then F 6 else if x = 15 then F 12 else 0
def lnF (F : pS) (b : Bool) (k : Nat) : pS := if b = true then upd (upd F 7 0) 15 (nI k) else upd F 7 1
def lnG (g : pS) (b : Bool) (L : List Int32) : pS := if b = true then putL g 0 L else g
def lnV (b : Bool) (k : Nat) : Int32 := if b = true then nI k else 0
