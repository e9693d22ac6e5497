/-! ===== what the law's methods are said to do ===== -/
/-- what changes of a pump: its state, what is kept, the ring's numbers, the refusal -/
abbrev LU : Type := pX × (Nat → pX) × Int32 × Nat × (Nat → Int32)
def luW (ty : Nat → ClassId) (o : Nat) (a b sn h t : Nat → Nat) (ha : Nat → Nat → Nat) (r sb : Nat) (hs lf ln cn : Int32) (ch le nu : Nat → Int32) (u : LU) : List va_W :=
  [ppB o (a 0) (b 0) (sn 0) (h 0) r (t 0) sb hs lf, rfB r (u.2.2.2.2 0) (u.2.2.2.2 1) (u.2.2.2.2 2) (u.2.2.2.2 3), stB a u.1.1, lnB ty a u.1.1, quB ty a u.1.1, weB a u.1.1, miB ty a u.1.2, hiB ty h ha u.2.2.1 (nI u.2.2.2.1),
   stF ty (ha 0) (u.2.1 0), stF ty (ha 1) (u.2.1 1), stF ty (ha 2) (u.2.1 2), stF ty (ha 3) (u.2.1 3), stF ty (ha 4) (u.2.1 4), stF ty (ha 5) (u.2.1 5), stF ty (ha 6) (u.2.1 6), stF ty (ha 7) (u.2.1 7), txB ty t ln cn ch le nu]
def LI (B n : Nat) (u : LU) : Prop := LJ B n u.1 ∧ u.2.2.2.1 < 8
def rfF (W : Int32 × Int32) (f : Nat → Int32) : Nat → Int32 := if W.1 = 0 then f else fun k => if k = 0 then W.1 else if k = 1 then W.2 else f 3
theorem rfW_F {r : Nat} {W : Int32 × Int32} {f : Nat → Int32} : rfW r W (f 0) (f 1) (f 2) (f 3) = rfB r (rfF W f 0) (rfF W f 1) (rfF W f 2) (rfF W f 3) := by
  unfold rfW rfF
  split <;> rfl
theorem rfW_z {r : Nat} {W : Int32 × Int32} {f0 f1 f2 f3 : Int32} (h : W.1 = 0) : rfW r W f0 f1 f2 f3 = rfB r f0 f1 f2 f3 := if_pos h
theorem xk_UOE : (Cond.castable "java/lang/UnsupportedOperationException" "java/lang/UnsupportedOperationException") ∈ xBad := by decide +kernel
theorem pick_n (x : Int32) : ∃ a, a < 2 ^ 24 ∧ (x.toUInt32 >>> (Int32.toUInt32 8 &&& Int32.toUInt32 31)).toInt32 = nI a := by
  refine ⟨(x.toUInt32 >>> (8 : UInt32)).toNat, ?_, ?_⟩
  · rw [UInt32.toNat_shiftRight]
    have h := x.toUInt32.toNat_lt
    have e : (8 : UInt32).toNat % 32 = 8 := by decide
    rw [e, Nat.shiftRight_eq_div_pow]
    omega
  · have e : (Int32.toUInt32 8 &&& Int32.toUInt32 31) = (8 : UInt32) := by decide
    rw [e]
    generalize x.toUInt32 >>> (8 : UInt32) = y
    have h2 : y = UInt32.ofNat y.toNat := (UInt32.ofNat_toNat).symm
    exact (congrArg UInt32.toInt32 h2).trans (by first | rfl | (show (UInt32.ofNat y.toNat).toInt32 = Int32.ofNat y.toNat; rfl) | simp)
theorem nI_nn {k : Nat} (h : k < 2 ^ 31) : ¬ nI k < 0 := fun c => absurd ((nI_ltI (a := k) (b := 0) h (by omega)).mp c) (Nat.not_lt_zero _)
theorem le1_n {x : Int32} (h : 1 ≤ x) : ¬ x ≤ 0 := fun c => absurd (Int32.le_trans h c) (by decide)
theorem best_no {S : pS} {i k : Nat} (c : pTbl S i (nI k) ≤ pTbl S i (nI (pWant S i (k - 1)))) : pWant S i (k - 1) = pWant S i (k + 1 - 1) := by
  cases k with
  | zero => rfl
  | succ k => exact pWant_no c
theorem best_yes {S : pS} {i k : Nat} (c : ¬ pTbl S i (nI k) ≤ pTbl S i (nI (pWant S i (k - 1)))) : k = pWant S i (k + 1 - 1) := by
  cases k with
  | zero => exact absurd (Int32.le_refl _) c
  | succ k => exact pWant_yes c
theorem nr_eq {S : pS} {i j : Nat} (h : j = i) : 0 = bI (pNear S i j) := by
  rw [pNear, decide_eq_false (p := i ≠ j) (fun e => e h.symm), Bool.false_and]
  rfl
theorem nr_far {S : pS} {i j : Nat} (h : 2 < pFar S i j) : 0 = bI (pNear S i j) := by
  rw [pNear, decide_eq_false (p := pFar S i j ≤ 2) (Int32.not_le.mpr h), Bool.and_false]
  rfl
theorem nr_yes {S : pS} {i j : Nat} (h : ¬ j = i) (h2 : ¬ 2 < pFar S i j) : 1 = bI (pNear S i j) := by
  rw [pNear, decide_eq_true (p := i ≠ j) (fun e => h e.symm), decide_eq_true (p := pFar S i j ≤ 2) (Int32.not_lt.mp h2)]
  rfl
theorem qr_0 (S : pS) (n k : Nat) : rs (fun w => rs (fun l => S (58 + 8 * w + l)) n) k = rs (fun w => rs (fun l => S (58 + 8 * w + l)) n) k + rs (fun l => S (58 + 8 * k + l)) 0 := (Int32.add_zero _).symm
theorem kW.pop {D : va_G} {tys : List (ClassId × FieldType)} {A : Nat → Prop} {H0 : Heap} {s : State} {H : Heap} {locs : List Loc} {Bs : List va_W} {x : va_W} (w : kW D tys A H0 s H locs (Bs ++ [x])) : kW D tys A H0 s H locs Bs := by
  obtain ⟨hK, hP, hD, hS, hA, hN⟩ := w
  rw [List.flatten_append] at hP hD
  have up : ∀ (k : Nat) (q : Nat × va_E), Bs.flatten[k]? = some q → (Bs.flatten ++ [x].flatten)[k]? = some q := fun k q hk => by
    rw [List.getElem?_append_left (List.getElem?_eq_some_iff.mp hk).1]; exact hk
  exact ⟨hK, fun k q hk => hP k q (up k q hk), ⟨fun i j p q hi hj h => hD.1 i j p q (up i p hi) (up j q hj) h, fun k q hk => hD.2 k q (up k q hk)⟩, hS, hA, hN⟩
