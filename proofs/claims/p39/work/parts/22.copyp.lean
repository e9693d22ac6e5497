/-! ===== copies of states; the history ===== -/
section KB4
variable {p : Program} {l : Launch} {e : Env} {R : Room} {s : State} {m : MethodId} {args : Array Value} {below : List Frame} {meth : Method} {c : Code} {H : Heap} {locs : List Loc} {cells slots : Nat} {Q : State → Prop}
variable {cc : ByteArray} {pc : Nat} {ls : Array Slot} {rest : List Value} {D : va_G} {A : Nat → Prop} {a : Nat} {tys : List (ClassId × FieldType)} {Bs : List va_W} {H0 : Heap}
theorem r_copy (hexec : p.tables.exec = Jvm.exec) (hb : c.code = cc) (hml : c.maxLocals = ls.size) {own : String} {index : Nat} (hown : s.vm.findClass own = some m.cls) (hlink : (Cond.methodLink own index arraycopyName).before args s = true) (hnat : (Cond.native arraycopyName).before args s = true) (hstat : (Cond.static arraycopyName).before args s = true) (hini : (Cond.initialized "java/lang/System").before args s = true)
    (w : kW D tys A H0 s H locs Bs) (i0 j0 i1 j1 : Nat) {B0 B1 : va_W} (hB0 : Bs[i0]? = some B0) {a0 : Nat} {c0 c1 : ClassId} {N : Nat} {f g : Nat → Int32} (he0 : B0[j0]? = some (a0, .inl (c0, N, .inl f))) (hB1 : Bs[i1]? = some B1) (he1 : B1[j1]? = some (a, .inl (c1, N, .inl g))) (t0 t1 : Nat) (ht0 : tys[t0]? = some (c0, .int)) (ht1 : tys[t1]? = some (c1, .int))
    {n : Int32} (hn : n = nI N) (hN : N < 2 ^ 31) (hframes : 1 ≤ R.frames) (hlocals : (rest.map fun v => v.category).sum + (nativeFrameWords "java/lang/System" "arraycopy" 5 + 11) ≤ R.locals) (B' : va_W) (hB' : B1.set j1 (a, .inl (c1, N, .inl (va_cpy f g 0 0 N))) = B') (Bs' : List va_W) (hBs : Bs.set i1 B' = Bs') (hdg : decode cc pc = .ok (.invokestatic index, 3))
    (kk : ∀ (H1 : Heap) (locs1 : List Loc), kW D tys A H0 s H1 locs1 Bs' → W p l e R s m args below meth c H1 locs1 cells slots Q (F0 m (pc + 3) ls rest)) : W p l e R s m args below meth c H locs cells slots Q (F0 m pc ls (.int n :: .int 0 :: .ref a :: .int 0 :: .ref a0 :: rest)) := by
  subst hn
  have h := nI_clamp hN
  have z : (0 : Int32).toNatClampNeg = 0 := by decide
  refine va_copyi hexec hb hml hown hlink hnat hstat hini w.1 w.2.1 w.2.2.1 w.2.2.2.1 _ _ t0 t1 (k_fget _ i0 j0 B0 _ hB0 he0) (k_fget _ i1 j1 B1 _ hB1 he1) ht0 ht1 rfl (by decide) (by decide) (nI_pos hN) (by rw [h, z]; omega) (by rw [h, z]; omega) (fun i _ => rfl) hframes hlocals hdg (fun H1 locs1 hP hD hS => kk H1 locs1 ?_)
  rw [h, z, k_fset _ i1 j1 B1 _ hB1 (List.getElem?_eq_some_iff.mp he1).1, hB', hBs] at hP hD
  exact ⟨w.1, hP, hD, hS, w.2.2.2.2⟩
end KB4
theorem nar01 {x : Int32} (h : x = 0 ∨ x = 1) : narrow .boolean (.int x) = .int x := by rcases h with rfl | rfl <;> rfl
theorem fit01 {x : Int32} (h : x = 0 ∨ x = 1) : fits .boolean (.int x) = true := by rcases h with rfl | rfl <;> rfl
theorem cpy_wn (S T : pS) (w : Nat) : va_cpy (wnA T w) (wnA S w) 0 0 8 = wnA T w := by
  funext k
  unfold va_cpy
  by_cases h : k < 8
  · rw [if_pos (by omega), Nat.zero_add, Nat.sub_zero]
  · rw [if_neg (by omega)]; unfold wnA; rw [if_neg h, if_neg h]
theorem cpy_qu (S T : pS)  : va_cpy (quA T) (quA S) 0 0 8 = quA T := by
  funext k
  unfold va_cpy
  by_cases h : k < 8
  · rw [if_pos (by omega), Nat.zero_add, Nat.sub_zero]
  · rw [if_neg (by omega)]; unfold quA; rw [if_neg h, if_neg h]
theorem cpy_mi (S T : pS) (b : Nat) : va_cpy (miA T b) (miA S b) 0 0 20 = miA T b := by
  funext k
  unfold va_cpy
  by_cases h : k < 20
  · rw [if_pos (by omega), Nat.zero_add, Nat.sub_zero]
  · rw [if_neg (by omega)]; unfold miA; rw [if_neg h, if_neg h]
theorem lnB_rowset {ty : Nat → ClassId} {a : Nat → Nat} {S T U : pS} {w : Nat} (hw : w < 8) (h1 : ∀ k, k < 8 → U (58 + 8 * w + k) = T (58 + 8 * w + k)) (h2 : ∀ i, (i < 49 ∨ (58 ≤ i ∧ i < 122) ∨ i = 213) → (i < 58 + 8 * w ∨ 58 + 8 * w + 8 ≤ i) → U i = S i) : (lnB ty a S).set (8 + w) (a (9 + w), .inl (ty 0, 8, .inl (wnA T w))) = lnB ty a U := by
  have e0 : wnA U w = wnA T w := wnA_ext h1
  have ne : ∀ d, d < 8 → d ≠ w → wnA U d = wnA S d := fun d hd hdw => wnA_ext (fun k hk => h2 _ (by omega) (by omega))
  rw [← e0]
  unfold lnB
  rw [← h2 0 (by omega) (by omega), ← h2 213 (by omega) (by omega), ← lnA_ext (S := U) (T := S) (c := 0) (fun k hk => h2 _ (by omega) (by omega)), ← lnA_ext (S := U) (T := S) (c := 1) (fun k hk => h2 _ (by omega) (by omega)), ← lnA_ext (S := U) (T := S) (c := 2) (fun k hk => h2 _ (by omega) (by omega)), ← lnA_ext (S := U) (T := S) (c := 3) (fun k hk => h2 _ (by omega) (by omega)), ← lnA_ext (S := U) (T := S) (c := 4) (fun k hk => h2 _ (by omega) (by omega)), ← lnA_ext (S := U) (T := S) (c := 5) (fun k hk => h2 _ (by omega) (by omega))]
  rcases (show w = 0 ∨ w = 1 ∨ w = 2 ∨ w = 3 ∨ w = 4 ∨ w = 5 ∨ w = 6 ∨ w = 7 by omega) with rfl | rfl | rfl | rfl | rfl | rfl | rfl | rfl
  · rw [← ne 1 (by decide) (by decide), ← ne 2 (by decide) (by decide), ← ne 3 (by decide) (by decide), ← ne 4 (by decide) (by decide), ← ne 5 (by decide) (by decide), ← ne 6 (by decide) (by decide), ← ne 7 (by decide) (by decide)]; rfl
  · rw [← ne 0 (by decide) (by decide), ← ne 2 (by decide) (by decide), ← ne 3 (by decide) (by decide), ← ne 4 (by decide) (by decide), ← ne 5 (by decide) (by decide), ← ne 6 (by decide) (by decide), ← ne 7 (by decide) (by decide)]; rfl
  · rw [← ne 0 (by decide) (by decide), ← ne 1 (by decide) (by decide), ← ne 3 (by decide) (by decide), ← ne 4 (by decide) (by decide), ← ne 5 (by decide) (by decide), ← ne 6 (by decide) (by decide), ← ne 7 (by decide) (by decide)]; rfl
  · rw [← ne 0 (by decide) (by decide), ← ne 1 (by decide) (by decide), ← ne 2 (by decide) (by decide), ← ne 4 (by decide) (by decide), ← ne 5 (by decide) (by decide), ← ne 6 (by decide) (by decide), ← ne 7 (by decide) (by decide)]; rfl
  · rw [← ne 0 (by decide) (by decide), ← ne 1 (by decide) (by decide), ← ne 2 (by decide) (by decide), ← ne 3 (by decide) (by decide), ← ne 5 (by decide) (by decide), ← ne 6 (by decide) (by decide), ← ne 7 (by decide) (by decide)]; rfl
  · rw [← ne 0 (by decide) (by decide), ← ne 1 (by decide) (by decide), ← ne 2 (by decide) (by decide), ← ne 3 (by decide) (by decide), ← ne 4 (by decide) (by decide), ← ne 6 (by decide) (by decide), ← ne 7 (by decide) (by decide)]; rfl
  · rw [← ne 0 (by decide) (by decide), ← ne 1 (by decide) (by decide), ← ne 2 (by decide) (by decide), ← ne 3 (by decide) (by decide), ← ne 4 (by decide) (by decide), ← ne 5 (by decide) (by decide), ← ne 7 (by decide) (by decide)]; rfl
  · rw [← ne 0 (by decide) (by decide), ← ne 1 (by decide) (by decide), ← ne 2 (by decide) (by decide), ← ne 3 (by decide) (by decide), ← ne 4 (by decide) (by decide), ← ne 5 (by decide) (by decide), ← ne 6 (by decide) (by decide)]; rfl
/-- a lane of S into which k places and rows of T were copied -/
def cpL (S T : pS) (k : Nat) : pS := fun i => if i = 0 ∨ i = 213 ∨ (1 ≤ i ∧ i < 1 + 6 * k) ∨ (58 ≤ i ∧ i < 58 + 8 * k) then T i else S i
theorem cpL_0 {ty : Nat → ClassId} {a : Nat → Nat} {S T : pS} : lnB ty a (upd (upd S 0 (T 0)) 213 (T 213)) = lnB ty a (cpL S T 0) := by
  refine lnB_ext fun i hi => ?_
  unfold cpL
  by_cases h1 : i = 213
  · rw [upds h1, if_pos (by omega), h1]
  · rw [updn h1]
    by_cases h2 : i = 0
    · rw [upds h2, if_pos (by omega), h2]
    · rw [updn h2, if_neg (by omega)]
theorem cpL_8 {ty : Nat → ClassId} {a : Nat → Nat} {S T : pS} : lnB ty a (cpL S T 8) = lnB ty a T := by
  refine lnB_ext fun i hi => ?_
  unfold cpL
  rw [if_pos (by omega)]
theorem cpL_s {ty : Nat → ClassId} {a : Nat → Nat} {S T : pS} {k : Nat} (hk : k < 8) : (lnB ty a (upd (upd (upd (upd (upd (upd (cpL S T k) (1 + 6 * k + 0) (T (1 + 6 * k + 0))) (1 + 6 * k + 1) (T (1 + 6 * k + 1))) (1 + 6 * k + 2) (T (1 + 6 * k + 2))) (1 + 6 * k + 3) (T (1 + 6 * k + 3))) (1 + 6 * k + 4) (T (1 + 6 * k + 4))) (1 + 6 * k + 5) (T (1 + 6 * k + 5)))).set (8 + k) (a (9 + k), .inl (ty 0, 8, .inl (va_cpy (wnA T k) (wnA (upd (upd (upd (upd (upd (upd (cpL S T k) (1 + 6 * k + 0) (T (1 + 6 * k + 0))) (1 + 6 * k + 1) (T (1 + 6 * k + 1))) (1 + 6 * k + 2) (T (1 + 6 * k + 2))) (1 + 6 * k + 3) (T (1 + 6 * k + 3))) (1 + 6 * k + 4) (T (1 + 6 * k + 4))) (1 + 6 * k + 5) (T (1 + 6 * k + 5))) k) 0 0 8))) = lnB ty a (cpL S T (k + 1)) := by
  rw [cpy_wn]
  refine lnB_rowset hk (fun j hj => ?_) (fun i h1 h2 => ?_)
  · unfold cpL; rw [if_pos (by omega)]
  · by_cases c5 : i = 1 + 6 * k + 5
    · rw [upds c5]; unfold cpL; rw [if_pos (by omega), c5]
    · rw [updn c5]
      by_cases c4 : i = 1 + 6 * k + 4
      · rw [upds c4]; unfold cpL; rw [if_pos (by omega), c4]
      · rw [updn c4]
        by_cases c3 : i = 1 + 6 * k + 3
        · rw [upds c3]; unfold cpL; rw [if_pos (by omega), c3]
        · rw [updn c3]
          by_cases c2 : i = 1 + 6 * k + 2
          · rw [upds c2]; unfold cpL; rw [if_pos (by omega), c2]
          · rw [updn c2]
            by_cases c1 : i = 1 + 6 * k + 1
            · rw [upds c1]; unfold cpL; rw [if_pos (by omega), c1]
            · rw [updn c1]
              by_cases c0 : i = 1 + 6 * k + 0
              · rw [upds c0]; unfold cpL; rw [if_pos (by omega), c0]
              · rw [updn c0]
                unfold cpL
                by_cases q : i = 0 ∨ i = 213 ∨ (1 ≤ i ∧ i < 1 + 6 * k) ∨ (58 ≤ i ∧ i < 58 + 8 * k)
                · rw [if_pos q, if_pos (by omega)]
                · rw [if_neg q, if_neg (by omega)]
theorem quB_cp {ty : Nat → ClassId} {a : Nat → Nat} {S T : pS} : (quB ty a (upd S 49 (T 49))).set 1 (a 18, .inl (ty 0, 8, .inl (va_cpy (quA T) (quA (upd S 49 (T 49))) 0 0 8))) = quB ty a T := by
  rw [cpy_qu]
  unfold quB
  rw [upds rfl]
  rfl
def ovr (M N : pS) (b : Nat) : pS := fun i => if b ≤ i ∧ i < b + 20 then N i else M i
theorem miB_cp0 {ty : Nat → ClassId} {a : Nat → Nat} {M N : pS} : (miB ty a M).set 1 (a 21, .inl (ty 0, 20, .inl (va_cpy (miA N 2) (miA M 2) 0 0 20))) = miB ty a (ovr M N 2) := by
  rw [cpy_mi]
  unfold miB
  rw [show ovr M N 2 0 = M 0 from if_neg (by omega), show ovr M N 2 1 = M 1 from if_neg (by omega), miA_ext (S := ovr M N 2) (T := N) (b := 2) (fun k hk => if_pos (by omega)), miA_ext (S := ovr M N 2) (T := M) (b := 22) (fun k hk => if_neg (by omega)), miA_ext (S := ovr M N 2) (T := M) (b := 42) (fun k hk => if_neg (by omega)), miA_ext (S := ovr M N 2) (T := M) (b := 62) (fun k hk => if_neg (by omega))]
  rfl
theorem miB_cp1 {ty : Nat → ClassId} {a : Nat → Nat} {M N : pS} : (miB ty a M).set 2 (a 22, .inl (ty 0, 20, .inl (va_cpy (miA N 22) (miA M 22) 0 0 20))) = miB ty a (ovr M N 22) := by
  rw [cpy_mi]
  unfold miB
  rw [show ovr M N 22 0 = M 0 from if_neg (by omega), show ovr M N 22 1 = M 1 from if_neg (by omega), miA_ext (S := ovr M N 22) (T := N) (b := 22) (fun k hk => if_pos (by omega)), miA_ext (S := ovr M N 22) (T := M) (b := 2) (fun k hk => if_neg (by omega)), miA_ext (S := ovr M N 22) (T := M) (b := 42) (fun k hk => if_neg (by omega)), miA_ext (S := ovr M N 22) (T := M) (b := 62) (fun k hk => if_neg (by omega))]
  rfl
theorem miB_cp2 {ty : Nat → ClassId} {a : Nat → Nat} {M N : pS} : (miB ty a M).set 3 (a 23, .inl (ty 0, 20, .inl (va_cpy (miA N 42) (miA M 42) 0 0 20))) = miB ty a (ovr M N 42) := by
  rw [cpy_mi]
  unfold miB
  rw [show ovr M N 42 0 = M 0 from if_neg (by omega), show ovr M N 42 1 = M 1 from if_neg (by omega), miA_ext (S := ovr M N 42) (T := N) (b := 42) (fun k hk => if_pos (by omega)), miA_ext (S := ovr M N 42) (T := M) (b := 2) (fun k hk => if_neg (by omega)), miA_ext (S := ovr M N 42) (T := M) (b := 22) (fun k hk => if_neg (by omega)), miA_ext (S := ovr M N 42) (T := M) (b := 62) (fun k hk => if_neg (by omega))]
  rfl
theorem miB_cp3 {ty : Nat → ClassId} {a : Nat → Nat} {M N : pS} : (miB ty a M).set 4 (a 24, .inl (ty 0, 20, .inl (va_cpy (miA N 62) (miA M 62) 0 0 20))) = miB ty a (ovr M N 62) := by
  rw [cpy_mi]
  unfold miB
  rw [show ovr M N 62 0 = M 0 from if_neg (by omega), show ovr M N 62 1 = M 1 from if_neg (by omega), miA_ext (S := ovr M N 62) (T := N) (b := 62) (fun k hk => if_pos (by omega)), miA_ext (S := ovr M N 62) (T := M) (b := 2) (fun k hk => if_neg (by omega)), miA_ext (S := ovr M N 62) (T := M) (b := 22) (fun k hk => if_neg (by omega)), miA_ext (S := ovr M N 62) (T := M) (b := 42) (fun k hk => if_neg (by omega))]
  rfl
theorem miB_cpe {ty : Nat → ClassId} {a : Nat → Nat} {M N : pS} : miB ty a (ovr (ovr (ovr (ovr (upd (upd M 0 (N 0)) 1 (N 1)) N 2) N 22) N 42) N 62) = miB ty a N := by
  refine miB_ext fun i hi => ?_
  unfold ovr
  by_cases c4 : 62 ≤ i ∧ i < 62 + 20
  · rw [if_pos c4]
  · rw [if_neg c4]
    by_cases c3 : 42 ≤ i ∧ i < 42 + 20
    · rw [if_pos c3]
    · rw [if_neg c3]
      by_cases c2 : 22 ≤ i ∧ i < 22 + 20
      · rw [if_pos c2]
      · rw [if_neg c2]
        by_cases c1 : 2 ≤ i ∧ i < 2 + 20
        · rw [if_pos c1]
        · rw [if_neg c1]
          by_cases d : i = 1
          · rw [upds d, d]
          · rw [updn d, upds (by omega), show i = 0 by omega]
theorem weB_cp {a : Nat → Nat} {S T : pS} : weB a (upd (upd (upd (upd (upd (upd (upd (upd S 204 (T 204)) 210 (T 210)) 211 (T 211)) 214 (T 214)) 208 (T 208)) 205 (T 205)) 212 (T 212)) 207 (T 207)) = weB a T := by
  refine weB_ext fun i hi => ?_
  rcases hi with rfl | rfl | rfl | rfl | rfl | rfl | rfl | rfl <;> rfl
theorem stB_cp {a : Nat → Nat} {S T : pS} : stB a (upd (upd (upd S 206 (T 206)) 203 (T 203)) 209 (T 209)) = stB a T := stB_ext rfl rfl rfl
/-- a state as one block -/
def stF (ty : Nat → ClassId) (a : Nat → Nat) (X : pX) : va_W := (stW ty a X).flatten
def hiB (ty : Nat → ClassId) (h : Nat → Nat) (hb : Nat → Nat → Nat) (sz nx : Int32) : va_W := [(h 0, .inr (5, [.int sz, .int nx, .ref (h 1)])), (h 1, .inl (ty 2, 8, .inr (.inr (.inr (.inr (fun i => if i < 8 then some (hb i 0) else none))))))]
theorem stF_flat (ty : Nat → ClassId) (a : Nat → Nat) (X : pX) (xs ys : List va_W) : (xs ++ stF ty a X :: ys).flatten = (xs ++ stB a X.1 :: lnB ty a X.1 :: quB ty a X.1 :: weB a X.1 :: miB ty a X.2 :: ys).flatten := by
  simp only [stF, stW, List.flatten_append, List.flatten_cons, List.flatten_nil, List.append_assoc, List.append_nil]
