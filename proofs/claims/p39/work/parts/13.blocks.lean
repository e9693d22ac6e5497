/-! ===== the blocks of the worlds ===== -/
def lnA (S : pS) (c : Nat) : Nat → Int32 := fun k => if k < 8 then S (1 + 6 * k + c) else 0
def wnA (S : pS) (w : Nat) : Nat → Int32 := fun k => if k < 8 then S (58 + 8 * w + k) else 0
def quA (S : pS) : Nat → Int32 := fun k => if k < 8 then S (50 + k) else 0
def miA (M : pS) (b : Nat) : Nat → Int32 := fun k => if k < 20 then M (b + k) else 0
def sqA (n : Nat) (S : pS) : Nat → Int32 := fun k => if k < n then S k else 0
theorem lnA_at {S : pS} {c : Nat} {k : Nat} (h : k < 8) : lnA S c k = S (1 + 6 * k + c) := by unfold lnA; rw [if_pos h]
theorem wnA_at {S : pS} {w : Nat} {k : Nat} (h : k < 8) : wnA S w k = S (58 + 8 * w + k) := by unfold wnA; rw [if_pos h]
theorem quA_at {S : pS}  {k : Nat} (h : k < 8) : quA S k = S (50 + k) := by unfold quA; rw [if_pos h]
theorem miA_at {S : pS} {b : Nat} {k : Nat} (h : k < 20) : miA S b k = S (b + k) := by unfold miA; rw [if_pos h]
theorem sqA_at {S : pS} {n : Nat} {k : Nat} (h : k < n) : sqA n S k = S k := by unfold sqA; rw [if_pos h]
theorem updn {f : Nat → Int32} {k j : Nat} {x : Int32} (h : j ≠ k) : upd f k x j = f j := by unfold upd; rw [if_neg h]
theorem upds {f : Nat → Int32} {k j : Nat} {x : Int32} (h : j = k) : upd f k x j = x := by unfold upd; rw [if_pos h]
theorem lnA_up {S : pS} {c h : Nat} {v : Int32} (hh : h < 8) : upd (lnA S c) h v = lnA (upd S (1 + 6 * h + c) v) c := by
  funext k
  unfold upd lnA
  by_cases e : k = h
  · subst e; simp [hh]
  · by_cases l : k < 8
    · rw [if_neg e, if_pos l, if_pos l]; exact (if_neg (by omega)).symm
    · rw [if_neg e, if_neg l, if_neg l]
theorem wnA_up {S : pS} {w h : Nat} {v : Int32} (hh : h < 8) : upd (wnA S w) h v = wnA (upd S (58 + 8 * w + h) v) w := by
  funext k
  unfold upd wnA
  by_cases e : k = h
  · subst e; simp [hh]
  · by_cases l : k < 8
    · rw [if_neg e, if_pos l, if_pos l]; exact (if_neg (by omega)).symm
    · rw [if_neg e, if_neg l, if_neg l]
theorem quA_up {S : pS} {h : Nat} {v : Int32} (hh : h < 8) : upd (quA S) h v = quA (upd S (50 + h) v) := by
  funext k
  unfold upd quA
  by_cases e : k = h
  · subst e; simp [hh]
  · by_cases l : k < 8
    · rw [if_neg e, if_pos l, if_pos l]; exact (if_neg (by omega)).symm
    · rw [if_neg e, if_neg l, if_neg l]
theorem miA_up {S : pS} {b h : Nat} {v : Int32} (hh : h < 20) : upd (miA S b) h v = miA (upd S (b + h) v) b := by
  funext k
  unfold upd miA
  by_cases e : k = h
  · subst e; simp [hh]
  · by_cases l : k < 20
    · rw [if_neg e, if_pos l, if_pos l]; exact (if_neg (by omega)).symm
    · rw [if_neg e, if_neg l, if_neg l]
theorem sqA_up {n : Nat} {S : pS} {h : Nat} {v : Int32} (hh : h < n) : upd (sqA n S) h v = sqA n (upd S h v) := by
  funext k
  unfold upd sqA
  by_cases e : k = h
  · subst e; simp [hh]
  · by_cases l : k < n
    · rw [if_neg e, if_pos l, if_pos l]; exact (if_neg e).symm
    · rw [if_neg e, if_neg l, if_neg l]
theorem lnA_ext {S T : pS} {c : Nat} (h : ∀ k, k < 8 → S (1 + 6 * k + c) = T (1 + 6 * k + c)) : lnA S c = lnA T c := by
  funext k
  unfold lnA
  by_cases l : k < 8
  · rw [if_pos l, if_pos l, h k l]
  · rw [if_neg l, if_neg l]
theorem wnA_ext {S T : pS} {w : Nat} (h : ∀ k, k < 8 → S (58 + 8 * w + k) = T (58 + 8 * w + k)) : wnA S w = wnA T w := by
  funext k
  unfold wnA
  by_cases l : k < 8
  · rw [if_pos l, if_pos l, h k l]
  · rw [if_neg l, if_neg l]
theorem quA_ext {S T : pS} (h : ∀ k, k < 8 → S (50 + k) = T (50 + k)) : quA S = quA T := by
  funext k
  unfold quA
  by_cases l : k < 8
  · rw [if_pos l, if_pos l, h k l]
  · rw [if_neg l, if_neg l]
theorem miA_ext {S T : pS} {b : Nat} (h : ∀ k, k < 20 → S (b + k) = T (b + k)) : miA S b = miA T b := by
  funext k
  unfold miA
  by_cases l : k < 20
  · rw [if_pos l, if_pos l, h k l]
  · rw [if_neg l, if_neg l]
theorem sqA_ext {n : Nat} {S T : pS} (h : ∀ k, k < n → S k = T k) : sqA n S = sqA n T := by
  funext k
  unfold sqA
  by_cases l : k < n
  · rw [if_pos l, if_pos l, h k l]
  · rw [if_neg l, if_neg l]
/-- a lane: its object, six rows, the wins -/
def lnB (ty : Nat → ClassId) (a : Nat → Nat) (S : pS) : va_W := [(a 1, .inr (6, [.int (S 0), .int (S 213), .ref (a 2), .ref (a 3), .ref (a 4), .ref (a 5), .ref (a 6), .ref (a 7), .ref (a 8)])), (a 2, .inl (ty 0, 8, .inl (lnA S 0))), (a 3, .inl (ty 0, 8, .inl (lnA S 1))), (a 4, .inl (ty 0, 8, .inl (lnA S 2))), (a 5, .inl (ty 0, 8, .inl (lnA S 3))), (a 6, .inl (ty 0, 8, .inl (lnA S 4))), (a 7, .inl (ty 0, 8, .inl (lnA S 5))), (a 8, .inl (ty 3, 8, .inr (.inr (.inr (.inr (fun i => if i < 8 then some (a (9 + i)) else none)))))), (a 9, .inl (ty 0, 8, .inl (wnA S 0))), (a 10, .inl (ty 0, 8, .inl (wnA S 1))), (a 11, .inl (ty 0, 8, .inl (wnA S 2))), (a 12, .inl (ty 0, 8, .inl (wnA S 3))), (a 13, .inl (ty 0, 8, .inl (wnA S 4))), (a 14, .inl (ty 0, 8, .inl (wnA S 5))), (a 15, .inl (ty 0, 8, .inl (wnA S 6))), (a 16, .inl (ty 0, 8, .inl (wnA S 7)))]
def quB (ty : Nat → ClassId) (a : Nat → Nat) (S : pS) : va_W := [(a 17, .inr (8, [.int (S 49), .ref (a 18)])), (a 18, .inl (ty 0, 8, .inl (quA S)))]
def weB (a : Nat → Nat) (S : pS) : va_W := [(a 19, .inr (11, [.int (S 204), .int (S 210), .int (S 211), .int (S 214), .int (S 208), .int (S 205), .int (S 212), .int (S 207)]))]
def miB (ty : Nat → ClassId) (a : Nat → Nat) (M : pS) : va_W := [(a 20, .inr (7, [.int (M 0), .int (M 1), .ref (a 21), .ref (a 22), .ref (a 23), .ref (a 24)])), (a 21, .inl (ty 0, 20, .inl (miA M 2))), (a 22, .inl (ty 0, 20, .inl (miA M 22))), (a 23, .inl (ty 0, 20, .inl (miA M 42))), (a 24, .inl (ty 0, 20, .inl (miA M 62)))]
def stB (a : Nat → Nat) (S : pS) : va_W := [(a 0, .inr (10, [.ref (a 1), .ref (a 17), .ref (a 19), .ref (a 20), .int (S 206), .int (S 203), .int (S 209)]))]
def rfB (r : Nat) (f0 f1 f2 f3 : Int32) : va_W := [(r, .inr (9, [.int f0, .int f1, .int f2, .int f3]))]
def txB (ty : Nat → ClassId) (t : Nat → Nat) (len cnt : Int32) (ch le nu : Nat → Int32) : va_W := [(t 0, .inr (4, [.int len, .ref (t 1), .int cnt, .ref (t 2), .ref (t 3)])), (t 1, .inl (ty 1, 60, .inl ch)), (t 2, .inl (ty 1, 60, .inl le)), (t 3, .inl (ty 0, 60, .inl nu))]
/-- the five blocks of a state -/
abbrev stW (ty : Nat → ClassId) (a : Nat → Nat) (X : pX) : List va_W := [stB a X.1, lnB ty a X.1, quB ty a X.1, weB a X.1, miB ty a X.2]
abbrev kTY (ty : Nat → ClassId) : List (ClassId × FieldType) := [(ty 0, .int), (ty 1, .char), (ty 2, .object "PumpParliament$State"), (ty 3, .array .int), (ty 4, .byte)]
theorem lnB_st0 {ty : Nat → ClassId} {a : Nat → Nat} {S : pS} {h : Nat} {v : Int32} (hh : h < 8) : (lnB ty a S).set 1 (a 2, .inl (ty 0, 8, .inl (upd (lnA S 0) h v))) = lnB ty a (upd S (1 + 6 * h + 0) v) := by
  unfold lnB
  rw [lnA_up hh, updn (f := S) (x := v) (show 0 ≠ 1 + 6 * h + 0 by omega), updn (f := S) (x := v) (show 213 ≠ 1 + 6 * h + 0 by omega), lnA_ext (S := upd S (1 + 6 * h + 0) v) (T := S) (c := 1) (fun k hk => updn (by omega)), lnA_ext (S := upd S (1 + 6 * h + 0) v) (T := S) (c := 2) (fun k hk => updn (by omega)), lnA_ext (S := upd S (1 + 6 * h + 0) v) (T := S) (c := 3) (fun k hk => updn (by omega)), lnA_ext (S := upd S (1 + 6 * h + 0) v) (T := S) (c := 4) (fun k hk => updn (by omega)), lnA_ext (S := upd S (1 + 6 * h + 0) v) (T := S) (c := 5) (fun k hk => updn (by omega)), wnA_ext (S := upd S (1 + 6 * h + 0) v) (T := S) (w := 0) (fun k hk => updn (by omega)), wnA_ext (S := upd S (1 + 6 * h + 0) v) (T := S) (w := 1) (fun k hk => updn (by omega)), wnA_ext (S := upd S (1 + 6 * h + 0) v) (T := S) (w := 2) (fun k hk => updn (by omega)), wnA_ext (S := upd S (1 + 6 * h + 0) v) (T := S) (w := 3) (fun k hk => updn (by omega)), wnA_ext (S := upd S (1 + 6 * h + 0) v) (T := S) (w := 4) (fun k hk => updn (by omega)), wnA_ext (S := upd S (1 + 6 * h + 0) v) (T := S) (w := 5) (fun k hk => updn (by omega)), wnA_ext (S := upd S (1 + 6 * h + 0) v) (T := S) (w := 6) (fun k hk => updn (by omega)), wnA_ext (S := upd S (1 + 6 * h + 0) v) (T := S) (w := 7) (fun k hk => updn (by omega))]
  rfl
theorem lnB_st1 {ty : Nat → ClassId} {a : Nat → Nat} {S : pS} {h : Nat} {v : Int32} (hh : h < 8) : (lnB ty a S).set 2 (a 3, .inl (ty 0, 8, .inl (upd (lnA S 1) h v))) = lnB ty a (upd S (1 + 6 * h + 1) v) := by
  unfold lnB
  rw [lnA_up hh, updn (f := S) (x := v) (show 0 ≠ 1 + 6 * h + 1 by omega), updn (f := S) (x := v) (show 213 ≠ 1 + 6 * h + 1 by omega), lnA_ext (S := upd S (1 + 6 * h + 1) v) (T := S) (c := 0) (fun k hk => updn (by omega)), lnA_ext (S := upd S (1 + 6 * h + 1) v) (T := S) (c := 2) (fun k hk => updn (by omega)), lnA_ext (S := upd S (1 + 6 * h + 1) v) (T := S) (c := 3) (fun k hk => updn (by omega)), lnA_ext (S := upd S (1 + 6 * h + 1) v) (T := S) (c := 4) (fun k hk => updn (by omega)), lnA_ext (S := upd S (1 + 6 * h + 1) v) (T := S) (c := 5) (fun k hk => updn (by omega)), wnA_ext (S := upd S (1 + 6 * h + 1) v) (T := S) (w := 0) (fun k hk => updn (by omega)), wnA_ext (S := upd S (1 + 6 * h + 1) v) (T := S) (w := 1) (fun k hk => updn (by omega)), wnA_ext (S := upd S (1 + 6 * h + 1) v) (T := S) (w := 2) (fun k hk => updn (by omega)), wnA_ext (S := upd S (1 + 6 * h + 1) v) (T := S) (w := 3) (fun k hk => updn (by omega)), wnA_ext (S := upd S (1 + 6 * h + 1) v) (T := S) (w := 4) (fun k hk => updn (by omega)), wnA_ext (S := upd S (1 + 6 * h + 1) v) (T := S) (w := 5) (fun k hk => updn (by omega)), wnA_ext (S := upd S (1 + 6 * h + 1) v) (T := S) (w := 6) (fun k hk => updn (by omega)), wnA_ext (S := upd S (1 + 6 * h + 1) v) (T := S) (w := 7) (fun k hk => updn (by omega))]
  rfl
theorem lnB_st2 {ty : Nat → ClassId} {a : Nat → Nat} {S : pS} {h : Nat} {v : Int32} (hh : h < 8) : (lnB ty a S).set 3 (a 4, .inl (ty 0, 8, .inl (upd (lnA S 2) h v))) = lnB ty a (upd S (1 + 6 * h + 2) v) := by
  unfold lnB
  rw [lnA_up hh, updn (f := S) (x := v) (show 0 ≠ 1 + 6 * h + 2 by omega), updn (f := S) (x := v) (show 213 ≠ 1 + 6 * h + 2 by omega), lnA_ext (S := upd S (1 + 6 * h + 2) v) (T := S) (c := 0) (fun k hk => updn (by omega)), lnA_ext (S := upd S (1 + 6 * h + 2) v) (T := S) (c := 1) (fun k hk => updn (by omega)), lnA_ext (S := upd S (1 + 6 * h + 2) v) (T := S) (c := 3) (fun k hk => updn (by omega)), lnA_ext (S := upd S (1 + 6 * h + 2) v) (T := S) (c := 4) (fun k hk => updn (by omega)), lnA_ext (S := upd S (1 + 6 * h + 2) v) (T := S) (c := 5) (fun k hk => updn (by omega)), wnA_ext (S := upd S (1 + 6 * h + 2) v) (T := S) (w := 0) (fun k hk => updn (by omega)), wnA_ext (S := upd S (1 + 6 * h + 2) v) (T := S) (w := 1) (fun k hk => updn (by omega)), wnA_ext (S := upd S (1 + 6 * h + 2) v) (T := S) (w := 2) (fun k hk => updn (by omega)), wnA_ext (S := upd S (1 + 6 * h + 2) v) (T := S) (w := 3) (fun k hk => updn (by omega)), wnA_ext (S := upd S (1 + 6 * h + 2) v) (T := S) (w := 4) (fun k hk => updn (by omega)), wnA_ext (S := upd S (1 + 6 * h + 2) v) (T := S) (w := 5) (fun k hk => updn (by omega)), wnA_ext (S := upd S (1 + 6 * h + 2) v) (T := S) (w := 6) (fun k hk => updn (by omega)), wnA_ext (S := upd S (1 + 6 * h + 2) v) (T := S) (w := 7) (fun k hk => updn (by omega))]
  rfl
theorem lnB_st3 {ty : Nat → ClassId} {a : Nat → Nat} {S : pS} {h : Nat} {v : Int32} (hh : h < 8) : (lnB ty a S).set 4 (a 5, .inl (ty 0, 8, .inl (upd (lnA S 3) h v))) = lnB ty a (upd S (1 + 6 * h + 3) v) := by
  unfold lnB
  rw [lnA_up hh, updn (f := S) (x := v) (show 0 ≠ 1 + 6 * h + 3 by omega), updn (f := S) (x := v) (show 213 ≠ 1 + 6 * h + 3 by omega), lnA_ext (S := upd S (1 + 6 * h + 3) v) (T := S) (c := 0) (fun k hk => updn (by omega)), lnA_ext (S := upd S (1 + 6 * h + 3) v) (T := S) (c := 1) (fun k hk => updn (by omega)), lnA_ext (S := upd S (1 + 6 * h + 3) v) (T := S) (c := 2) (fun k hk => updn (by omega)), lnA_ext (S := upd S (1 + 6 * h + 3) v) (T := S) (c := 4) (fun k hk => updn (by omega)), lnA_ext (S := upd S (1 + 6 * h + 3) v) (T := S) (c := 5) (fun k hk => updn (by omega)), wnA_ext (S := upd S (1 + 6 * h + 3) v) (T := S) (w := 0) (fun k hk => updn (by omega)), wnA_ext (S := upd S (1 + 6 * h + 3) v) (T := S) (w := 1) (fun k hk => updn (by omega)), wnA_ext (S := upd S (1 + 6 * h + 3) v) (T := S) (w := 2) (fun k hk => updn (by omega)), wnA_ext (S := upd S (1 + 6 * h + 3) v) (T := S) (w := 3) (fun k hk => updn (by omega)), wnA_ext (S := upd S (1 + 6 * h + 3) v) (T := S) (w := 4) (fun k hk => updn (by omega)), wnA_ext (S := upd S (1 + 6 * h + 3) v) (T := S) (w := 5) (fun k hk => updn (by omega)), wnA_ext (S := upd S (1 + 6 * h + 3) v) (T := S) (w := 6) (fun k hk => updn (by omega)), wnA_ext (S := upd S (1 + 6 * h + 3) v) (T := S) (w := 7) (fun k hk => updn (by omega))]
  rfl
theorem lnB_st4 {ty : Nat → ClassId} {a : Nat → Nat} {S : pS} {h : Nat} {v : Int32} (hh : h < 8) : (lnB ty a S).set 5 (a 6, .inl (ty 0, 8, .inl (upd (lnA S 4) h v))) = lnB ty a (upd S (1 + 6 * h + 4) v) := by
  unfold lnB
  rw [lnA_up hh, updn (f := S) (x := v) (show 0 ≠ 1 + 6 * h + 4 by omega), updn (f := S) (x := v) (show 213 ≠ 1 + 6 * h + 4 by omega), lnA_ext (S := upd S (1 + 6 * h + 4) v) (T := S) (c := 0) (fun k hk => updn (by omega)), lnA_ext (S := upd S (1 + 6 * h + 4) v) (T := S) (c := 1) (fun k hk => updn (by omega)), lnA_ext (S := upd S (1 + 6 * h + 4) v) (T := S) (c := 2) (fun k hk => updn (by omega)), lnA_ext (S := upd S (1 + 6 * h + 4) v) (T := S) (c := 3) (fun k hk => updn (by omega)), lnA_ext (S := upd S (1 + 6 * h + 4) v) (T := S) (c := 5) (fun k hk => updn (by omega)), wnA_ext (S := upd S (1 + 6 * h + 4) v) (T := S) (w := 0) (fun k hk => updn (by omega)), wnA_ext (S := upd S (1 + 6 * h + 4) v) (T := S) (w := 1) (fun k hk => updn (by omega)), wnA_ext (S := upd S (1 + 6 * h + 4) v) (T := S) (w := 2) (fun k hk => updn (by omega)), wnA_ext (S := upd S (1 + 6 * h + 4) v) (T := S) (w := 3) (fun k hk => updn (by omega)), wnA_ext (S := upd S (1 + 6 * h + 4) v) (T := S) (w := 4) (fun k hk => updn (by omega)), wnA_ext (S := upd S (1 + 6 * h + 4) v) (T := S) (w := 5) (fun k hk => updn (by omega)), wnA_ext (S := upd S (1 + 6 * h + 4) v) (T := S) (w := 6) (fun k hk => updn (by omega)), wnA_ext (S := upd S (1 + 6 * h + 4) v) (T := S) (w := 7) (fun k hk => updn (by omega))]
  rfl
theorem lnB_st5 {ty : Nat → ClassId} {a : Nat → Nat} {S : pS} {h : Nat} {v : Int32} (hh : h < 8) : (lnB ty a S).set 6 (a 7, .inl (ty 0, 8, .inl (upd (lnA S 5) h v))) = lnB ty a (upd S (1 + 6 * h + 5) v) := by
  unfold lnB
  rw [lnA_up hh, updn (f := S) (x := v) (show 0 ≠ 1 + 6 * h + 5 by omega), updn (f := S) (x := v) (show 213 ≠ 1 + 6 * h + 5 by omega), lnA_ext (S := upd S (1 + 6 * h + 5) v) (T := S) (c := 0) (fun k hk => updn (by omega)), lnA_ext (S := upd S (1 + 6 * h + 5) v) (T := S) (c := 1) (fun k hk => updn (by omega)), lnA_ext (S := upd S (1 + 6 * h + 5) v) (T := S) (c := 2) (fun k hk => updn (by omega)), lnA_ext (S := upd S (1 + 6 * h + 5) v) (T := S) (c := 3) (fun k hk => updn (by omega)), lnA_ext (S := upd S (1 + 6 * h + 5) v) (T := S) (c := 4) (fun k hk => updn (by omega)), wnA_ext (S := upd S (1 + 6 * h + 5) v) (T := S) (w := 0) (fun k hk => updn (by omega)), wnA_ext (S := upd S (1 + 6 * h + 5) v) (T := S) (w := 1) (fun k hk => updn (by omega)), wnA_ext (S := upd S (1 + 6 * h + 5) v) (T := S) (w := 2) (fun k hk => updn (by omega)), wnA_ext (S := upd S (1 + 6 * h + 5) v) (T := S) (w := 3) (fun k hk => updn (by omega)), wnA_ext (S := upd S (1 + 6 * h + 5) v) (T := S) (w := 4) (fun k hk => updn (by omega)), wnA_ext (S := upd S (1 + 6 * h + 5) v) (T := S) (w := 5) (fun k hk => updn (by omega)), wnA_ext (S := upd S (1 + 6 * h + 5) v) (T := S) (w := 6) (fun k hk => updn (by omega)), wnA_ext (S := upd S (1 + 6 * h + 5) v) (T := S) (w := 7) (fun k hk => updn (by omega))]
  rfl
theorem lnB_size {ty : Nat → ClassId} {a : Nat → Nat} {S : pS} {v : Int32} : (lnB ty a S).set 0 (a 1, .inr (6, [.int v, .int (S 213), .ref (a 2), .ref (a 3), .ref (a 4), .ref (a 5), .ref (a 6), .ref (a 7), .ref (a 8)])) = lnB ty a (upd S 0 v) := by
  unfold lnB
  rw [lnA_ext (S := upd S 0 v) (T := S) (c := 0) (fun k hk => updn (by omega)), lnA_ext (S := upd S 0 v) (T := S) (c := 1) (fun k hk => updn (by omega)), lnA_ext (S := upd S 0 v) (T := S) (c := 2) (fun k hk => updn (by omega)), lnA_ext (S := upd S 0 v) (T := S) (c := 3) (fun k hk => updn (by omega)), lnA_ext (S := upd S 0 v) (T := S) (c := 4) (fun k hk => updn (by omega)), lnA_ext (S := upd S 0 v) (T := S) (c := 5) (fun k hk => updn (by omega)), wnA_ext (S := upd S 0 v) (T := S) (w := 0) (fun k hk => updn (by omega)), wnA_ext (S := upd S 0 v) (T := S) (w := 1) (fun k hk => updn (by omega)), wnA_ext (S := upd S 0 v) (T := S) (w := 2) (fun k hk => updn (by omega)), wnA_ext (S := upd S 0 v) (T := S) (w := 3) (fun k hk => updn (by omega)), wnA_ext (S := upd S 0 v) (T := S) (w := 4) (fun k hk => updn (by omega)), wnA_ext (S := upd S 0 v) (T := S) (w := 5) (fun k hk => updn (by omega)), wnA_ext (S := upd S 0 v) (T := S) (w := 6) (fun k hk => updn (by omega)), wnA_ext (S := upd S 0 v) (T := S) (w := 7) (fun k hk => updn (by omega))]
  rfl
theorem lnB_fights {ty : Nat → ClassId} {a : Nat → Nat} {S : pS} {v : Int32} : (lnB ty a S).set 0 (a 1, .inr (6, [.int (S 0), .int v, .ref (a 2), .ref (a 3), .ref (a 4), .ref (a 5), .ref (a 6), .ref (a 7), .ref (a 8)])) = lnB ty a (upd S 213 v) := by
  unfold lnB
  rw [lnA_ext (S := upd S 213 v) (T := S) (c := 0) (fun k hk => updn (by omega)), lnA_ext (S := upd S 213 v) (T := S) (c := 1) (fun k hk => updn (by omega)), lnA_ext (S := upd S 213 v) (T := S) (c := 2) (fun k hk => updn (by omega)), lnA_ext (S := upd S 213 v) (T := S) (c := 3) (fun k hk => updn (by omega)), lnA_ext (S := upd S 213 v) (T := S) (c := 4) (fun k hk => updn (by omega)), lnA_ext (S := upd S 213 v) (T := S) (c := 5) (fun k hk => updn (by omega)), wnA_ext (S := upd S 213 v) (T := S) (w := 0) (fun k hk => updn (by omega)), wnA_ext (S := upd S 213 v) (T := S) (w := 1) (fun k hk => updn (by omega)), wnA_ext (S := upd S 213 v) (T := S) (w := 2) (fun k hk => updn (by omega)), wnA_ext (S := upd S 213 v) (T := S) (w := 3) (fun k hk => updn (by omega)), wnA_ext (S := upd S 213 v) (T := S) (w := 4) (fun k hk => updn (by omega)), wnA_ext (S := upd S 213 v) (T := S) (w := 5) (fun k hk => updn (by omega)), wnA_ext (S := upd S 213 v) (T := S) (w := 6) (fun k hk => updn (by omega)), wnA_ext (S := upd S 213 v) (T := S) (w := 7) (fun k hk => updn (by omega))]
  rfl
theorem lnB_row {ty : Nat → ClassId} {a : Nat → Nat} {S : pS} {w : Nat} (hw : w < 8) : (lnB ty a S)[8 + w]? = some (a (9 + w), .inl (ty 0, 8, .inl (wnA S w))) := by
  rcases (show w = 0 ∨ w = 1 ∨ w = 2 ∨ w = 3 ∨ w = 4 ∨ w = 5 ∨ w = 6 ∨ w = 7 by omega) with rfl | rfl | rfl | rfl | rfl | rfl | rfl | rfl <;> rfl
theorem lnB_wins {ty : Nat → ClassId} {a : Nat → Nat} {S : pS} {w h : Nat} {v : Int32} (hw : w < 8) (hh : h < 8) : (lnB ty a S).set (8 + w) (a (9 + w), .inl (ty 0, 8, .inl (upd (wnA S w) h v))) = lnB ty a (upd S (58 + 8 * w + h) v) := by
  rw [wnA_up hh]
  unfold lnB
  rw [updn (f := S) (x := v) (show 0 ≠ 58 + 8 * w + h by omega), updn (f := S) (x := v) (show 213 ≠ 58 + 8 * w + h by omega), lnA_ext (S := upd S (58 + 8 * w + h) v) (T := S) (c := 0) (fun k hk => updn (by omega)), lnA_ext (S := upd S (58 + 8 * w + h) v) (T := S) (c := 1) (fun k hk => updn (by omega)), lnA_ext (S := upd S (58 + 8 * w + h) v) (T := S) (c := 2) (fun k hk => updn (by omega)), lnA_ext (S := upd S (58 + 8 * w + h) v) (T := S) (c := 3) (fun k hk => updn (by omega)), lnA_ext (S := upd S (58 + 8 * w + h) v) (T := S) (c := 4) (fun k hk => updn (by omega)), lnA_ext (S := upd S (58 + 8 * w + h) v) (T := S) (c := 5) (fun k hk => updn (by omega))]
  have ne : ∀ d, d ≠ w → wnA (upd S (58 + 8 * w + h) v) d = wnA S d := fun d hd => wnA_ext (fun k hk => updn (by omega))
  rcases (show w = 0 ∨ w = 1 ∨ w = 2 ∨ w = 3 ∨ w = 4 ∨ w = 5 ∨ w = 6 ∨ w = 7 by omega) with rfl | rfl | rfl | rfl | rfl | rfl | rfl | rfl
  · rw [ne 1 (by decide), ne 2 (by decide), ne 3 (by decide), ne 4 (by decide), ne 5 (by decide), ne 6 (by decide), ne 7 (by decide)]; rfl
  · rw [ne 0 (by decide), ne 2 (by decide), ne 3 (by decide), ne 4 (by decide), ne 5 (by decide), ne 6 (by decide), ne 7 (by decide)]; rfl
  · rw [ne 0 (by decide), ne 1 (by decide), ne 3 (by decide), ne 4 (by decide), ne 5 (by decide), ne 6 (by decide), ne 7 (by decide)]; rfl
  · rw [ne 0 (by decide), ne 1 (by decide), ne 2 (by decide), ne 4 (by decide), ne 5 (by decide), ne 6 (by decide), ne 7 (by decide)]; rfl
  · rw [ne 0 (by decide), ne 1 (by decide), ne 2 (by decide), ne 3 (by decide), ne 5 (by decide), ne 6 (by decide), ne 7 (by decide)]; rfl
  · rw [ne 0 (by decide), ne 1 (by decide), ne 2 (by decide), ne 3 (by decide), ne 4 (by decide), ne 6 (by decide), ne 7 (by decide)]; rfl
  · rw [ne 0 (by decide), ne 1 (by decide), ne 2 (by decide), ne 3 (by decide), ne 4 (by decide), ne 5 (by decide), ne 7 (by decide)]; rfl
  · rw [ne 0 (by decide), ne 1 (by decide), ne 2 (by decide), ne 3 (by decide), ne 4 (by decide), ne 5 (by decide), ne 6 (by decide)]; rfl
theorem quB_st {ty : Nat → ClassId} {a : Nat → Nat} {S : pS} {h : Nat} {v : Int32} (hh : h < 8) : (quB ty a S).set 1 (a 18, .inl (ty 0, 8, .inl (upd (quA S) h v))) = quB ty a (upd S (50 + h) v) := by
  unfold quB
  rw [quA_up hh, updn (f := S) (x := v) (show 49 ≠ 50 + h by omega)]
  rfl
theorem quB_len {ty : Nat → ClassId} {a : Nat → Nat} {S : pS} {v : Int32} : (quB ty a S).set 0 (a 17, .inr (8, [.int v, .ref (a 18)])) = quB ty a (upd S 49 v) := by
  unfold quB
  rw [quA_ext (S := upd S 49 v) (T := S) (fun k hk => updn (by omega))]
  rfl
theorem miB_st0 {ty : Nat → ClassId} {a : Nat → Nat} {M : pS} {h : Nat} {v : Int32} (hh : h < 20) : (miB ty a M).set 1 (a 21, .inl (ty 0, 20, .inl (upd (miA M 2) h v))) = miB ty a (upd M (2 + h) v) := by
  unfold miB
  rw [miA_up hh, updn (f := M) (x := v) (show 0 ≠ 2 + h by omega), updn (f := M) (x := v) (show 1 ≠ 2 + h by omega), miA_ext (S := upd M (2 + h) v) (T := M) (b := 22) (fun k hk => updn (by omega)), miA_ext (S := upd M (2 + h) v) (T := M) (b := 42) (fun k hk => updn (by omega)), miA_ext (S := upd M (2 + h) v) (T := M) (b := 62) (fun k hk => updn (by omega))]
  rfl
theorem miB_st1 {ty : Nat → ClassId} {a : Nat → Nat} {M : pS} {h : Nat} {v : Int32} (hh : h < 20) : (miB ty a M).set 2 (a 22, .inl (ty 0, 20, .inl (upd (miA M 22) h v))) = miB ty a (upd M (22 + h) v) := by
  unfold miB
  rw [miA_up hh, updn (f := M) (x := v) (show 0 ≠ 22 + h by omega), updn (f := M) (x := v) (show 1 ≠ 22 + h by omega), miA_ext (S := upd M (22 + h) v) (T := M) (b := 2) (fun k hk => updn (by omega)), miA_ext (S := upd M (22 + h) v) (T := M) (b := 42) (fun k hk => updn (by omega)), miA_ext (S := upd M (22 + h) v) (T := M) (b := 62) (fun k hk => updn (by omega))]
  rfl
theorem miB_st2 {ty : Nat → ClassId} {a : Nat → Nat} {M : pS} {h : Nat} {v : Int32} (hh : h < 20) : (miB ty a M).set 3 (a 23, .inl (ty 0, 20, .inl (upd (miA M 42) h v))) = miB ty a (upd M (42 + h) v) := by
  unfold miB
  rw [miA_up hh, updn (f := M) (x := v) (show 0 ≠ 42 + h by omega), updn (f := M) (x := v) (show 1 ≠ 42 + h by omega), miA_ext (S := upd M (42 + h) v) (T := M) (b := 2) (fun k hk => updn (by omega)), miA_ext (S := upd M (42 + h) v) (T := M) (b := 22) (fun k hk => updn (by omega)), miA_ext (S := upd M (42 + h) v) (T := M) (b := 62) (fun k hk => updn (by omega))]
  rfl
theorem miB_st3 {ty : Nat → ClassId} {a : Nat → Nat} {M : pS} {h : Nat} {v : Int32} (hh : h < 20) : (miB ty a M).set 4 (a 24, .inl (ty 0, 20, .inl (upd (miA M 62) h v))) = miB ty a (upd M (62 + h) v) := by
  unfold miB
  rw [miA_up hh, updn (f := M) (x := v) (show 0 ≠ 62 + h by omega), updn (f := M) (x := v) (show 1 ≠ 62 + h by omega), miA_ext (S := upd M (62 + h) v) (T := M) (b := 2) (fun k hk => updn (by omega)), miA_ext (S := upd M (62 + h) v) (T := M) (b := 22) (fun k hk => updn (by omega)), miA_ext (S := upd M (62 + h) v) (T := M) (b := 42) (fun k hk => updn (by omega))]
  rfl
theorem miB_f0 {ty : Nat → ClassId} {a : Nat → Nat} {M : pS} {v : Int32} : (miB ty a M).set 0 (a 20, .inr (7, [.int v, .int (M 1), .ref (a 21), .ref (a 22), .ref (a 23), .ref (a 24)])) = miB ty a (upd M 0 v) := by
  unfold miB
  rw [miA_ext (S := upd M 0 v) (T := M) (b := 2) (fun k hk => updn (by omega)), miA_ext (S := upd M 0 v) (T := M) (b := 22) (fun k hk => updn (by omega)), miA_ext (S := upd M 0 v) (T := M) (b := 42) (fun k hk => updn (by omega)), miA_ext (S := upd M 0 v) (T := M) (b := 62) (fun k hk => updn (by omega))]
  rfl
theorem miB_f1 {ty : Nat → ClassId} {a : Nat → Nat} {M : pS} {v : Int32} : (miB ty a M).set 0 (a 20, .inr (7, [.int (M 0), .int v, .ref (a 21), .ref (a 22), .ref (a 23), .ref (a 24)])) = miB ty a (upd M 1 v) := by
  unfold miB
  rw [miA_ext (S := upd M 1 v) (T := M) (b := 2) (fun k hk => updn (by omega)), miA_ext (S := upd M 1 v) (T := M) (b := 22) (fun k hk => updn (by omega)), miA_ext (S := upd M 1 v) (T := M) (b := 42) (fun k hk => updn (by omega)), miA_ext (S := upd M 1 v) (T := M) (b := 62) (fun k hk => updn (by omega))]
  rfl
theorem stB_ext {a : Nat → Nat} {S T : pS} (h1 : S 206 = T 206) (h2 : S 203 = T 203) (h3 : S 209 = T 209) : stB a S = stB a T := by unfold stB; rw [h1, h2, h3]
theorem quB_ext {ty : Nat → ClassId} {a : Nat → Nat} {S T : pS} (h : ∀ i, 49 ≤ i → i < 58 → S i = T i) : quB ty a S = quB ty a T := by unfold quB; rw [h 49 (by omega) (by omega), quA_ext (fun k hk => h _ (by omega) (by omega))]
theorem weB_ext {a : Nat → Nat} {S T : pS} (h : ∀ i, (i = 204 ∨ i = 205 ∨ i = 207 ∨ i = 208 ∨ i = 210 ∨ i = 211 ∨ i = 212 ∨ i = 214) → S i = T i) : weB a S = weB a T := by unfold weB; rw [h 204 (by omega), h 205 (by omega), h 207 (by omega), h 208 (by omega), h 210 (by omega), h 211 (by omega), h 212 (by omega), h 214 (by omega)]
theorem lnB_ext {ty : Nat → ClassId} {a : Nat → Nat} {S T : pS} (h : ∀ i, (i < 49 ∨ (58 ≤ i ∧ i < 122) ∨ i = 213) → S i = T i) : lnB ty a S = lnB ty a T := by
  unfold lnB
  rw [h 0 (by omega), h 213 (by omega), lnA_ext (c := 0) (fun k hk => h (1 + 6 * k + 0) (by omega)), lnA_ext (c := 1) (fun k hk => h (1 + 6 * k + 1) (by omega)), lnA_ext (c := 2) (fun k hk => h (1 + 6 * k + 2) (by omega)), lnA_ext (c := 3) (fun k hk => h (1 + 6 * k + 3) (by omega)), lnA_ext (c := 4) (fun k hk => h (1 + 6 * k + 4) (by omega)), lnA_ext (c := 5) (fun k hk => h (1 + 6 * k + 5) (by omega)), wnA_ext (w := 0) (fun k hk => h (58 + 8 * 0 + k) (by omega)), wnA_ext (w := 1) (fun k hk => h (58 + 8 * 1 + k) (by omega)), wnA_ext (w := 2) (fun k hk => h (58 + 8 * 2 + k) (by omega)), wnA_ext (w := 3) (fun k hk => h (58 + 8 * 3 + k) (by omega)), wnA_ext (w := 4) (fun k hk => h (58 + 8 * 4 + k) (by omega)), wnA_ext (w := 5) (fun k hk => h (58 + 8 * 5 + k) (by omega)), wnA_ext (w := 6) (fun k hk => h (58 + 8 * 6 + k) (by omega)), wnA_ext (w := 7) (fun k hk => h (58 + 8 * 7 + k) (by omega))]
theorem miB_ext {ty : Nat → ClassId} {a : Nat → Nat} {M N : pS} (h : ∀ i, i < 82 → M i = N i) : miB ty a M = miB ty a N := by
  unfold miB
  rw [h 0 (by omega), h 1 (by omega), miA_ext (b := 2) (fun k hk => h (2 + k) (by omega)), miA_ext (b := 22) (fun k hk => h (22 + k) (by omega)), miA_ext (b := 42) (fun k hk => h (42 + k) (by omega)), miA_ext (b := 62) (fun k hk => h (62 + k) (by omega))]
