/-! ===== what constructors leave ===== -/
def pS0 : pS := upd (upd (fun _ => 0) 204 500) 208 2
def pM0 : pS := fun _ => 0
theorem pS0_z {k : Nat} (h : k ≠ 204) (h2 : k ≠ 208) : pS0 k = 0 := by
  unfold pS0
  rw [updn h2, updn h]
theorem lnA_z {c : Nat} (hc : c ≤ 5) : lnA pS0 c = fun _ => 0 := by
  funext k
  unfold lnA
  split
  · exact pS0_z (by omega) (by omega)
  · rfl
theorem wnA_z {w : Nat} (hw : w < 8) : wnA pS0 w = fun _ => 0 := by
  funext k
  unfold wnA
  split
  · exact pS0_z (by omega) (by omega)
  · rfl
theorem quA_z : quA pS0 = fun _ => 0 := by
  funext k
  unfold quA
  split
  · exact pS0_z (by omega) (by omega)
  · rfl
theorem miA_z {b : Nat} : miA pM0 b = fun _ => 0 := by
  funext k
  unfold miA
  split <;> rfl
def aLn (q1 q2 q3 q4 q5 q6 q7 q8 : Nat) (r : Nat → Nat) : Nat → Nat := fun k => if k < 9 then [0, q1, q2, q3, q4, q5, q6, q7, q8].getD k 0 else r (k - 9)
theorem aLn_w {q1 q2 q3 q4 q5 q6 q7 q8 : Nat} {r : Nat → Nat} : (fun i => if i < 8 then some (aLn q1 q2 q3 q4 q5 q6 q7 q8 r (9 + i)) else none) = (fun i => if i < 8 then some (r i) else none) := by
  funext i
  have e : aLn q1 q2 q3 q4 q5 q6 q7 q8 r (9 + i) = r i := by
    unfold aLn
    rw [if_neg (by omega), show 9 + i - 9 = i by omega]
  rw [e]
theorem lnB_new {ty : Nat → ClassId} {q1 q2 q3 q4 q5 q6 q7 q8 : Nat} {r : Nat → Nat} : lnB ty (aLn q1 q2 q3 q4 q5 q6 q7 q8 r) pS0 = [(q1, .inr (6, [.int 0, .int 0, .ref q2, .ref q3, .ref q4, .ref q5, .ref q6, .ref q7, .ref q8])), (q2, .inl (ty 0, 8, .inl (fun _ => 0))), (q3, .inl (ty 0, 8, .inl (fun _ => 0))), (q4, .inl (ty 0, 8, .inl (fun _ => 0))), (q5, .inl (ty 0, 8, .inl (fun _ => 0))), (q6, .inl (ty 0, 8, .inl (fun _ => 0))), (q7, .inl (ty 0, 8, .inl (fun _ => 0)))] ++ ((q8, .inl (ty 3, 8, .inr (.inr (.inr (.inr (fun i => if i < 8 then some (r i) else none)))))) :: (List.range 8).map (fun i => (r i, .inl (ty 0, 8, .inl (fun _ => 0))))) := by
  unfold lnB
  rw [lnA_z (by omega), lnA_z (by omega), lnA_z (by omega), lnA_z (by omega), lnA_z (by omega), lnA_z (by omega), wnA_z (by omega), wnA_z (by omega), wnA_z (by omega), wnA_z (by omega), wnA_z (by omega), wnA_z (by omega), wnA_z (by omega), wnA_z (by omega), aLn_w]
  rfl
theorem lnB_a {ty : Nat → ClassId} {a b : Nat → Nat} {S : pS} (h : ∀ k, 1 ≤ k → k < 17 → a k = b k) : lnB ty a S = lnB ty b S := by
  unfold lnB
  rw [h 1 (by omega) (by omega), h 2 (by omega) (by omega), h 3 (by omega) (by omega), h 4 (by omega) (by omega), h 5 (by omega) (by omega), h 6 (by omega) (by omega), h 7 (by omega) (by omega), h 8 (by omega) (by omega), h 9 (by omega) (by omega), h 10 (by omega) (by omega), h 11 (by omega) (by omega), h 12 (by omega) (by omega), h 13 (by omega) (by omega), h 14 (by omega) (by omega), h 15 (by omega) (by omega), h 16 (by omega) (by omega)]
  rw [show (fun i => if i < 8 then some (a (9 + i)) else none) = (fun i => if i < 8 then some (b (9 + i)) else none) from funext fun i => by
    split
    · rw [h (9 + i) (by omega) (by omega)]
    · rfl]
theorem quB_a {ty : Nat → ClassId} {a b : Nat → Nat} {S : pS} (h : ∀ k, 17 ≤ k → k < 19 → a k = b k) : quB ty a S = quB ty b S := by
  unfold quB
  rw [h 17 (by omega) (by omega), h 18 (by omega) (by omega)]
theorem miB_a {ty : Nat → ClassId} {a b : Nat → Nat} {M : pS} (h : ∀ k, 20 ≤ k → k < 25 → a k = b k) : miB ty a M = miB ty b M := by
  unfold miB
  rw [h 20 (by omega) (by omega), h 21 (by omega) (by omega), h 22 (by omega) (by omega), h 23 (by omega) (by omega), h 24 (by omega) (by omega)]
def aSt (q0 : Nat) (gl gq : Nat → Nat) (qw : Nat) (gm : Nat → Nat) : Nat → Nat := fun k => if k = 0 then q0 else if k < 17 then gl k else if k < 19 then gq k else if k = 19 then qw else gm k
theorem aSt_l {q0 : Nat} {gl gq : Nat → Nat} {qw : Nat} {gm : Nat → Nat} {k : Nat} (h : 1 ≤ k) (h2 : k < 17) : aSt q0 gl gq qw gm k = gl k := by
  unfold aSt
  rw [if_neg (by omega), if_pos h2]
theorem aSt_q {q0 : Nat} {gl gq : Nat → Nat} {qw : Nat} {gm : Nat → Nat} {k : Nat} (h : 17 ≤ k) (h2 : k < 19) : aSt q0 gl gq qw gm k = gq k := by
  unfold aSt
  rw [if_neg (by omega), if_neg (by omega), if_pos h2]
theorem aSt_m {q0 : Nat} {gl gq : Nat → Nat} {qw : Nat} {gm : Nat → Nat} {k : Nat} (h : 20 ≤ k) : aSt q0 gl gq qw gm k = gm k := by
  unfold aSt
  rw [if_neg (by omega), if_neg (by omega), if_neg (by omega), if_neg (by omega)]
/-- a new state's five blocks -/
theorem st_new {ty : Nat → ClassId} {q0 : Nat} {gl gq : Nat → Nat} {qw : Nat} {gm : Nat → Nat} : stW ty (aSt q0 gl gq qw gm) (pS0, pM0) = [[(q0, .inr (10, [.ref (gl 1), .ref (gq 17), .ref qw, .ref (gm 20), .int 0, .int 0, .int 0]))], lnB ty gl pS0, quB ty gq pS0, [(qw, .inr (11, [.int 500, .int 0, .int 0, .int 0, .int 2, .int 0, .int 0, .int 0]))], miB ty gm pM0] := by
  show [stB (aSt q0 gl gq qw gm) pS0, lnB ty (aSt q0 gl gq qw gm) pS0, quB ty (aSt q0 gl gq qw gm) pS0, weB (aSt q0 gl gq qw gm) pS0, miB ty (aSt q0 gl gq qw gm) pM0] = _
  rw [lnB_a (b := gl) (fun k h h2 => aSt_l h h2), quB_a (b := gq) (fun k h h2 => aSt_q h h2), miB_a (b := gm) (fun k h h2 => aSt_m h)]
  rfl
theorem up_8 {x0 x1 x2 x3 x4 x5 x6 x7 : Nat} {f : Nat → Nat} (h : ∀ i, i < 8 → f i = [x0, x1, x2, x3, x4, x5, x6, x7].getD i 0) : va_up (va_up (va_up (va_up (va_up (va_up (va_up (va_up (fun _ => none) 0 (some x0)) 1 (some x1)) 2 (some x2)) 3 (some x3)) 4 (some x4)) 5 (some x5)) 6 (some x6)) 7 (some x7) = (fun i => if i < 8 then some (f i) else none) := by
  funext i
  unfold va_up
  by_cases hi : i < 8
  · rw [if_pos hi, h i hi]
    rcases (show i = 0 ∨ i = 1 ∨ i = 2 ∨ i = 3 ∨ i = 4 ∨ i = 5 ∨ i = 6 ∨ i = 7 by omega) with rfl | rfl | rfl | rfl | rfl | rfl | rfl | rfl <;> rfl
  · rw [if_neg hi, if_neg (by omega), if_neg (by omega), if_neg (by omega), if_neg (by omega), if_neg (by omega), if_neg (by omega), if_neg (by omega), if_neg (by omega)]
def aTx (t0 t1 t2 t3 : Nat) : Nat → Nat := fun k => [t0, t1, t2, t3].getD k 0
theorem sq_new : sqA 215 pS0 = upd (upd (fun _ => 0) 204 500) 208 2 := by
  funext k
  unfold sqA
  split
  · rfl
  · rw [updn (by omega), updn (by omega)]
theorem sq_z : sqA 215 (fun _ => 0) = fun _ => 0 := by
  funext k
  unfold sqA
  split <;> rfl
/-- the blocks of the class's object -/
def clW (ty : Nat → ClassId) (g : Nat → Nat → Nat) (X Y Z : pX) (HX : Nat → pX) (sz nx hs lf f0 f1 f2 f3 z cn : Int32) (ch le nu : pS) (ml : Int32) (n : Nat) (f : pS) : List va_W :=
  [ppB (g 0 0) (g 1 0) (g 2 0) (g 3 0) (g 4 0) (g 0 1) (g 5 0) (g 0 2) hs lf, rfB (g 0 1) f0 f1 f2 f3] ++ stW ty (g 1) X ++ stW ty (g 2) Y ++ stW ty (g 3) Z ++ [hiB ty (g 4) (fun k => g (6 + k)) sz nx, stF ty (g 6) (HX 0), stF ty (g 7) (HX 1), stF ty (g 8) (HX 2), stF ty (g 9) (HX 3), stF ty (g 10) (HX 4), stF ty (g 11) (HX 5), stF ty (g 12) (HX 6), stF ty (g 13) (HX 7), txB ty (g 5) z cn ch le nu, soB (g 0 2) (g 0 3) ml n, baB ty (g 0 3) f]
section KBE
variable {D : va_G} {tys : List (ClassId × FieldType)} {A : Nat → Prop} {H0 H : Heap} {s : State} {locs : List Loc} {Bs Bs' : List va_W}
theorem kW.order (w : kW D tys A H0 s H locs Bs) (is : List Nat) {nB : Nat} (hp : is.Perm (List.range nB)) (hl : Bs.length = nB) (he : is.filterMap (fun i => Bs[i]?) = Bs') : kW D tys A H0 s H locs Bs' := by
  have hperm := k_idx (l := Bs) (is := is) (by rw [hl]; exact hp)
  rw [he] at hperm
  have hfl := hperm.flatten
  exact ⟨w.1, k_P_perm hfl.symm w.2.1, k_D_perm hfl.symm w.2.2.1, w.2.2.2⟩
end KBE
