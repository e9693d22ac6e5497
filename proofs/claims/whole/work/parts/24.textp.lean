/-! ===== the text buffer: the class's reader ===== -/
section KB5
variable {p : Program} {l : Launch} {e : Env} {R : Room} {s : State} {m : MethodId} {args : Array Value} {below : List Frame} {meth : Method} {c : Code} {H : Heap} {locs : List Loc} {cells slots : Nat} {Q : State → Prop}
variable {cc : ByteArray} {pc : Nat} {ls : Array Slot} {rest : List Value} {D : va_G} {A : Nat → Prop} {a : Nat} {tys : List (ClassId × FieldType)} {Bs : List va_W} {H0 : Heap}
theorem r_cast (hexec : p.tables.exec = Jvm.exec) (hb : c.code = cc) (w : kW D tys A H0 s H locs Bs) (i j : Nat) {B : va_W} (hB : Bs[i]? = some B) {cA : ClassId} {n : Nat} {f : Nat → Int32} (he : B[j]? = some (a, .inl (cA, n, .inl f))) (t0 : Nat) (ht : tys[t0]? = some (cA, .char)) (q : Nat) (hq : q < n) (hn : n < 2 ^ 31) {x v : Int32} (hx : x = nI q) (hv : vp_nar .char v = v) (B' : va_W) (hB' : B.set j (a, .inl (cA, n, .inl (upd f q v))) = B') (Bs' : List va_W) (hBs : Bs.set i B' = Bs') (hdg : decode cc pc = .ok (.castore, 1))
    (kk : ∀ (H1 : Heap) (locs1 : List Loc), kW D tys A H0 s H1 locs1 Bs' → W p l e R s m args below meth c H1 locs1 cells slots Q (F0 m (pc + 1) ls rest)) : W p l e R s m args below meth c H locs cells slots Q (F0 m pc ls (.int v :: .int x :: .ref a :: rest)) := by
  subst hx
  have h := nI_clamp (show q < 2 ^ 31 by omega)
  refine va_cast hexec hb w.1 w.2.1 w.2.2.1 w.2.2.2.1 _ t0 (k_fget _ i j B _ hB he) ht (vp_in_nI hq hn) hdg (fun H1 locs1 hP hD hS => kk H1 locs1 ?_)
  rw [h, hv, k_fset _ i j B _ hB (List.getElem?_eq_some_iff.mp he).1, hB', hBs] at hP hD
  exact ⟨w.1, hP, hD, hS, w.2.2.2.2⟩
end KB5
def pLet (c : Int32) : Int32 := if c = 106 ∨ c = 108 ∨ c = 114 then 1 else if c = 100 ∨ c = 110 then 2 else if c = 118 ∨ c = 112 then 4 else -1
def pEx (e c : Int32) : Int32 := if e = 0 then pLet c else if e = 1 then (if pIn c 48 57 = true then 4 else -1) else if e = 2 then (if pIn c 48 57 = true then 3 else -1) else if e = 3 then (if pIn c 48 57 = true then 4 else if c = 59 then 0 else -1) else (if c = 59 then 0 else -1)
theorem pEx_0 {e c : Int32} (h : e = 0) : pLet c = pEx e c := by rw [pEx, if_pos h]
theorem pEx_1 {e c : Int32} (h0 : ¬ e = 0) (h : e = 1) (v : Int32) (hv : v = if pIn c 48 57 = true then 4 else -1) : v = pEx e c := by rw [pEx, if_neg h0, if_pos h]; exact hv
theorem pEx_2 {e c : Int32} (h0 : ¬ e = 0) (h1 : ¬ e = 1) (h : e = 2) (v : Int32) (hv : v = if pIn c 48 57 = true then 3 else -1) : v = pEx e c := by rw [pEx, if_neg h0, if_neg h1, if_pos h]; exact hv
theorem pEx_3 {e c : Int32} (h0 : ¬ e = 0) (h1 : ¬ e = 1) (h2 : ¬ e = 2) (h : e = 3) (v : Int32) (hv : v = if pIn c 48 57 = true then 4 else if c = 59 then 0 else -1) : v = pEx e c := by rw [pEx, if_neg h0, if_neg h1, if_neg h2, if_pos h]; exact hv
theorem pEx_4 {e c : Int32} (h0 : ¬ e = 0) (h1 : ¬ e = 1) (h2 : ¬ e = 2) (h3 : ¬ e = 3) (v : Int32) (hv : v = if c = 59 then 0 else -1) : v = pEx e c := by rw [pEx, if_neg h0, if_neg h1, if_neg h2, if_neg h3]; exact hv
def clT (e c : Int32) (cn : Nat) (le nu : Nat → Int32) : Nat × (Nat → Int32) × (Nat → Int32) := if e = 0 then (cn + 1, upd le cn c, upd nu cn 0) else if pIn c 48 57 = true ∧ 0 < cn then (cn, le, upd nu (cn - 1) (nu (cn - 1) * 10 + (c - 48))) else (cn, le, nu)
theorem clT_0 {e c : Int32} {cn : Nat} {le nu : Nat → Int32} (h : e = 0) : clT e c cn le nu = (cn + 1, upd le cn c, upd nu cn 0) := by rw [clT, if_pos h]
theorem clT_1 {e c : Int32} {cn : Nat} {le nu : Nat → Int32} (h : ¬ e = 0) (h1 : pIn c 48 57 = true) (h2 : 0 < cn) : clT e c cn le nu = (cn, le, upd nu (cn - 1) (nu (cn - 1) * 10 + (c - 48))) := by rw [clT, if_neg h, if_pos ⟨h1, h2⟩]
theorem clT_2 {e c : Int32} {cn : Nat} {le nu : Nat → Int32} (h : ¬ e = 0) (h1 : ¬ (pIn c 48 57 = true ∧ 0 < cn)) : clT e c cn le nu = (cn, le, nu) := by rw [clT, if_neg h, if_neg h1]
def clR (ch : Nat → Int32) (z : Nat) : Nat → Nat → Int32 → Nat → (Nat → Int32) → (Nat → Int32) → Int32 × Nat × (Nat → Int32) × (Nat → Int32)
  | 0, _, e, cn, le, nu => (if e = 3 ∨ e = 4 then -1 else nI z, cn, le, nu)
  | f + 1, k, e, cn, le, nu => if pEx e (ch k) = -1 then (nI k, cn, le, nu) else clR ch z f (k + 1) (pEx e (ch k)) (clT e (ch k) cn le nu).1 (clT e (ch k) cn le nu).2.1 (clT e (ch k) cn le nu).2.2
theorem clR_f {ch : Nat → Int32} {z k cn : Nat} {e : Int32} {le nu : Nat → Int32} (hk : k < z) (h : pEx e (ch k) = -1) : clR ch z (z - k) k e cn le nu = (nI k, cn, le, nu) := by
  rw [show z - k = (z - k - 1) + 1 by omega]
  show (if _ then _ else _) = _
  rw [if_pos h]
theorem clR_s {ch : Nat → Int32} {z k cn : Nat} {e : Int32} {le nu : Nat → Int32} (hk : k < z) (h : ¬ pEx e (ch k) = -1) : clR ch z (z - k) k e cn le nu = clR ch z (z - (k + 1)) (k + 1) (pEx e (ch k)) (clT e (ch k) cn le nu).1 (clT e (ch k) cn le nu).2.1 (clT e (ch k) cn le nu).2.2 := by
  rw [show z - k = (z - (k + 1)) + 1 by omega]
  show (if _ then _ else _) = _
  rw [if_neg h]
theorem clT_n {e c : Int32} {cn : Nat} {le nu : Nat → Int32} : (clT e c cn le nu).1 ≤ cn + 1 := by
  unfold clT
  split
  · exact Nat.le_refl _
  · split <;> exact Nat.le_succ _
section KB6
variable {p : Program} {l : Launch} {e : Env} {R : Room} {s : State} {m : MethodId} {args : Array Value} {below : List Frame} {meth : Method} {c : Code} {H : Heap} {locs : List Loc} {cells slots : Nat} {Q : State → Prop} {pc : Nat} {ls : Array Slot} {st : List Value}
/-- where roads meet: what follows is walked once -/
theorem k_cut (P : Heap → List Loc → Array Slot → Prop) {pc' : Nat} {st' : List Value} (h2 : ∀ (H1 : Heap) (locs1 : List Loc) (ls1 : Array Slot), P H1 locs1 ls1 → W p l e R s m args below meth c H1 locs1 cells slots Q (F0 m pc' ls1 st'))
    (h1 : (∀ (H1 : Heap) (locs1 : List Loc) (ls1 : Array Slot), P H1 locs1 ls1 → W p l e R s m args below meth c H1 locs1 cells slots Q (F0 m pc' ls1 st')) → W p l e R s m args below meth c H locs cells slots Q (F0 m pc ls st)) : W p l e R s m args below meth c H locs cells slots Q (F0 m pc ls st) := h1 h2
end KB6
