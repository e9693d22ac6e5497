/-! ===== the builder: numbers, texts, letters ===== -/
theorem jb_len : ∀ i : Nat, i < 2 → jLen.getD i 0 = (jByt.getD i []).length ∧ jLen.getD i 0 ≤ 7 := by decide
theorem jb_fit : ∀ i : Nat, i < 2 → ∀ j : Nat, j < jLen.getD i 0 → fits .byte (.int ((jByt.getD i []).getD j 0)) = true := by decide
theorem jb_cpy {i n : Nat} {f : pS} (hi : i < 2) : va_cpy (fun j => (jByt.getD i []).getD j 0) f 0 n (jLen.getD i 0) = putL f n (jByt.getD i []) := by
  funext k
  unfold va_cpy putL
  rw [(jb_len i hi).1]
  by_cases c : n ≤ k ∧ k < n + (jByt.getD i []).length
  · rw [if_pos c, if_pos c, Nat.zero_add]
  · rw [if_neg c, if_neg c]
theorem jb_min : ∀ n : Nat, n ≤ 16 → jmin (nI n) 16 = nI n := by decide +kernel
theorem jb_cnar : ∀ q : Nat, q < 128 → narrow .char (.int (nI q)) = .int (nI q) := by
  intro q hq
  have h := jb_i2c q hq
  first | (simp only [narrow, h]; done) | (simp [narrow, h]; done) | (unfold narrow; simp [h])
section KBL
variable {p : Program} {l : Launch} {e : Env} {R : Room} {s : State} {m : MethodId} {args : Array Value} {below : List Frame} {meth : Method} {c : Code} {H : Heap} {locs : List Loc} {cells slots : Nat} {Q : State → Prop}
variable {cc : ByteArray} {pc : Nat} {ls : Array Slot} {rest : List Value} {D : va_G} {A : Nat → Prop} {a : Nat} {tys : List (ClassId × FieldType)} {Bs : List va_W}
theorem r_copyt (hexec : p.tables.exec = Jvm.exec) (hb : c.code = cc) (hml : c.maxLocals = ls.size) {own : String} {index : Nat} (hown : s.vm.findClass own = some m.cls) (hlink : (Cond.methodLink own index arraycopyName).before args s = true) (hnat : (Cond.native arraycopyName).before args s = true) (hstat : (Cond.static arraycopyName).before args s = true) (hini : (Cond.initialized "java/lang/System").before args s = true)
    (w : kW D tys A s.heap s H locs Bs) {b0 n dp N : Nat} {f g : Nat → Int32} (hX : va_T .byte b0 n (fun j => .int (f j)) A s s.heap) (i1 j1 : Nat) {B1 : va_W} {c1 : ClassId} (hB1 : Bs[i1]? = some B1) (he1 : B1[j1]? = some (a, .inl (c1, N, .inl g))) (t1 : Nat) (ht1 : tys[t1]? = some (c1, .byte))
    (hn : n < 2 ^ 31 ∧ dp + n ≤ N ∧ N < 2 ^ 31 ∧ ∀ i, i < n → fits .byte (.int (f i)) = true) (hframes : 1 ≤ R.frames) (hlocals : (rest.map fun v => v.category).sum + (nativeFrameWords "java/lang/System" "arraycopy" 5 + 11) ≤ R.locals) (B' : va_W) (hB' : B1.set j1 (a, .inl (c1, N, .inl (va_cpy f g 0 dp n))) = B') (Bs' : List va_W) (hBs : Bs.set i1 B' = Bs') (hdg : decode cc pc = .ok (.invokestatic index, 3))
    (kk : ∀ (H1 : Heap) (locs1 : List Loc), kW D tys A s.heap s H1 locs1 Bs' → W p l e R s m args below meth c H1 locs1 cells slots Q (F0 m (pc + 3) ls rest)) : W p l e R s m args below meth c H locs cells slots Q (F0 m pc ls (.int (nI n) :: .int (nI dp) :: .ref a :: .int 0 :: .ref b0 :: rest)) := by
  have h := nI_clamp hn.1
  have h2 := nI_clamp (show dp < 2 ^ 31 by omega)
  have z : (0 : Int32).toNatClampNeg = 0 := by decide
  refine vk_copyt hexec hb hml hown hlink hnat hstat hini w.1 w.2.1 w.2.2.1 w.2.2.2.1 hX _ t1 (k_fget _ i1 j1 B1 _ hB1 he1) ht1 (by decide) (nI_pos (by omega)) (nI_pos hn.1) (by rw [h, z]; omega) (by rw [h, h2]; omega) (fun i hi => by rw [z, Nat.zero_add]; exact hn.2.2.2 i (by rw [h] at hi; exact hi)) hframes hlocals hdg (fun H1 locs1 hP hD hS => kk H1 locs1 ?_)
  rw [h, h2, z, k_fset _ i1 j1 B1 _ hB1 (List.getElem?_eq_some_iff.mp he1).1, hB', hBs] at hP hD
  exact ⟨w.1, hP, hD, hS, w.2.2.2.2⟩
end KBL
