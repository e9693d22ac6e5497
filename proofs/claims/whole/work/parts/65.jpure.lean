/-! ===== texts in the builder: pure ===== -/
theorem putL_cons {g : pS} {m : Nat} {x : Int32} {L : List Int32} : upd (putL g (m + 1) L) m x = putL g m (x :: L) := by
  funext i
  unfold upd putL
  rw [List.length_cons]
  by_cases c : i = m
  · subst c
    rw [if_pos rfl, if_pos (by omega), Nat.sub_self]
    rfl
  · rw [if_neg c]
    by_cases c2 : m + 1 ≤ i ∧ i < m + 1 + L.length
    · rw [if_pos c2, if_pos (by omega), show i - m = (i - (m + 1)) + 1 by omega]
      rfl
    · rw [if_neg c2, if_neg (by omega)]
/-- the last j digits -/
def lsD (v j : Nat) : List Int32 := (List.range j).map (fun t => nI (48 + v / 10 ^ (j - 1 - t) % 10))
theorem lsD_len {v j : Nat} : (lsD v j).length = j := by
  unfold lsD
  rw [List.length_map, List.length_range]
theorem lsD_s {v j : Nat} : lsD v (j + 1) = nI (48 + v / 10 ^ j % 10) :: lsD v j := by
  unfold lsD
  rw [List.range_succ_eq_map, List.map_cons, List.map_map]
  refine congr (congrArg List.cons (by rw [show j + 1 - 1 - 0 = j by omega])) (List.map_congr_left fun t _ => ?_)
  show nI (48 + v / 10 ^ (j + 1 - 1 - (t + 1)) % 10) = _
  rw [show j + 1 - 1 - (t + 1) = j - 1 - t by omega]
theorem dig_ls {v : Nat} : dig v = lsD v (dgE 9 v + 1) := by
  unfold dig lsD
  exact List.map_congr_left fun t _ => by rw [show dgE 9 v + 1 - 1 - t = dgE 9 v - t by omega]
/-- two more digits of the front part w = v / 10 ^ j -/
theorem lsD_2 {v j w : Nat} (hw : w = v / 10 ^ j) : lsD v (j + 2) = nI (48 + w / 10 % 10) :: nI (48 + w % 10) :: lsD v j := by
  subst hw
  rw [lsD_s, lsD_s, Nat.div_div_eq_div_mul, ← Nat.pow_succ]
theorem lsD_1 {v j w : Nat} (hw : w = v / 10 ^ j) : lsD v (j + 1) = nI (48 + w % 10) :: lsD v j := by
  subst hw
  rw [lsD_s]
theorem dg_of {v k : Nat} (hk : k ≤ 9) (h0 : 10 ^ k ≤ v ∨ k = 0) (h1 : v < 10 ^ (k + 1)) : dgE 9 v = k := by
  refine dg_e k 9 v hk (fun i hi => ?_) ?_
  · rcases h0 with h0 | h0
    · rw [Nat.le_div_iff_mul_le (Nat.pow_pos (by omega))]
      calc 10 * 10 ^ i = 10 ^ (i + 1) := by rw [Nat.pow_succ, Nat.mul_comm]
        _ ≤ 10 ^ k := Nat.pow_le_pow_right (by omega) (by omega)
        _ ≤ v := h0
    · omega
  · rw [Nat.div_lt_iff_lt_mul (Nat.pow_pos (by omega)), ← Nat.pow_succ']
    exact h1
theorem jb_nar : ∀ q : Nat, q < 128 → vp_nar .byte (nI q) = nI q := by decide +kernel
theorem jb_i2b : ∀ q : Nat, q < 128 → (nI q).toInt8.toInt32 = nI q := by decide +kernel
theorem jb_and : ∀ q : Nat, q < 128 → nI q &&& 255 = nI q := by decide +kernel
theorem jb_i2c : ∀ q : Nat, q < 128 → ((nI q).toUInt32 % 65536).toInt32 = nI q := by decide +kernel
theorem jb_sub : ∀ q : Nat, q ≤ 16 → nI q - 16 ≤ 0 := by decide +kernel
theorem jb_nneg {a : Nat} : -(-nI a) = nI a := Int32.neg_neg
theorem jb_m10 (q : Nat) : 10 * (-nI q) = -nI (10 * q) := by
  rw [Int32.mul_neg, show (10 : Int32) = nI 10 from rfl, pk_mul]
section KBK
variable {p : Program} {l : Launch} {e : Env} {R : Room} {s : State} {m : MethodId} {args : Array Value} {below : List Frame} {meth : Method} {c : Code} {H : Heap} {locs : List Loc} {cells slots : Nat} {Q : State → Prop}
variable {cc : ByteArray} {pc : Nat} {ls : Array Slot} {rest : List Value} {D : va_G} {A : Nat → Prop} {a : Nat} {tys : List (ClassId × FieldType)} {Bs : List va_W} {H0 : Heap}
theorem r_bast (hexec : p.tables.exec = Jvm.exec) (hb : c.code = cc) (w : kW D tys A H0 s H locs Bs) (i j : Nat) {B : va_W} (hB : Bs[i]? = some B) {cA : ClassId} {n : Nat} {f : Nat → Int32} (he : B[j]? = some (a, .inl (cA, n, .inl f))) (t0 : Nat) (ht : tys[t0]? = some (cA, .byte)) (q : Nat) (hq : q < n) (hn : n < 2 ^ 31) {x v : Int32} (hx : x = nI q) (hv : vp_nar .byte v = v) (B' : va_W) (hB' : B.set j (a, .inl (cA, n, .inl (upd f q v))) = B') (Bs' : List va_W) (hBs : Bs.set i B' = Bs') (hdg : decode cc pc = .ok (.bastore, 1))
    (kk : ∀ (H1 : Heap) (locs1 : List Loc), kW D tys A H0 s H1 locs1 Bs' → W p l e R s m args below meth c H1 locs1 cells slots Q (F0 m (pc + 1) ls rest)) : W p l e R s m args below meth c H locs cells slots Q (F0 m pc ls (.int v :: .int x :: .ref a :: rest)) := by
  subst hx
  have h := nI_clamp (show q < 2 ^ 31 by omega)
  refine va_bast hexec hb w.1 w.2.1 w.2.2.1 w.2.2.2.1 _ t0 (k_fget _ i j B _ hB he) ht (vp_in_nI hq hn) hdg (fun H1 locs1 hP hD hS => kk H1 locs1 ?_)
  rw [h, hv, k_fset _ i j B _ hB (List.getElem?_eq_some_iff.mp he).1, hB', hBs] at hP hD
  exact ⟨w.1, hP, hD, hS, w.2.2.2.2⟩
theorem r_bald (hexec : p.tables.exec = Jvm.exec) (hb : c.code = cc) (w : kW D tys A H0 s H locs Bs) (i j : Nat) {B : va_W} (hB : Bs[i]? = some B) {cA : ClassId} {n : Nat} {f : Nat → Int32} (he : B[j]? = some (a, .inl (cA, n, .inl f))) (t0 : Nat) (ht : tys[t0]? = some (cA, .byte)) (q : Nat) (hq : q < n) (hn : n < 2 ^ 31) {x v : Int32} (hx : x = nI q) (hv : f q = v) (hdg : decode cc pc = .ok (.baload, 1))
    (kk : W p l e R s m args below meth c H locs cells slots Q (F0 m (pc + 1) ls (.int v :: rest))) : W p l e R s m args below meth c H locs cells slots Q (F0 m pc ls (.int x :: .ref a :: rest)) := by
  subst hx
  have h := nI_clamp (show q < 2 ^ 31 by omega)
  refine va_bald hexec hb w.1 w.2.1 _ t0 (k_fget _ i j B _ hB he) ht (vp_in_nI hq hn) hdg ?_
  rw [h, hv]
  exact kk
theorem r_alen (hexec : p.tables.exec = Jvm.exec) (hb : c.code = cc) (w : kW D tys A H0 s H locs Bs) (i j : Nat) {B : va_W} (hB : Bs[i]? = some B) {cA : ClassId} {x : vp_A} (he : B[j]? = some (a, .inl (cA, x))) (t0 : Nat) {fty : FieldType} (ht : tys[t0]? = some (cA, fty)) {v : Int32} (hv : Int32.ofNat x.1 = v) (hdg : decode cc pc = .ok (.arraylength, 1))
    (kk : W p l e R s m args below meth c H locs cells slots Q (F0 m (pc + 1) ls (.int v :: rest))) : W p l e R s m args below meth c H locs cells slots Q (F0 m pc ls (.ref a :: rest)) :=
  va_alen hexec hb w.1 w.2.1 _ t0 (k_fget _ i j B _ hB he) ht hv hdg kk
end KBK
/-! the builder's blocks: the object, its bytes -/
def soB (sb va : Nat) (ml : Int32) (n : Nat) : va_W := [(sb, .inr (1, [.ref va, .int 0, .int ml, .int (nI n)]))]
def baB (ty : Nat → ClassId) (va : Nat) (f : pS) : va_W := [(va, .inl (ty 4, 16, .inl f))]
theorem dg_in {v : Nat} (hv : v < 10 ^ 7) : (10 ^ dgE 9 v ≤ v ∨ dgE 9 v = 0) ∧ v < 10 ^ (dgE 9 v + 1) ∧ dgE 9 v ≤ 6 := by
  have key : ∃ k, k ≤ 6 ∧ (10 ^ k ≤ v ∨ k = 0) ∧ v < 10 ^ (k + 1) := by
    by_cases h1 : v < 10
    · exact ⟨0, by omega, Or.inr rfl, h1⟩
    by_cases h2 : v < 100
    · exact ⟨1, by omega, Or.inl (by omega), h2⟩
    by_cases h3 : v < 1000
    · exact ⟨2, by omega, Or.inl (by omega), h3⟩
    by_cases h4 : v < 10000
    · exact ⟨3, by omega, Or.inl (by omega), h4⟩
    by_cases h5 : v < 100000
    · exact ⟨4, by omega, Or.inl (by omega), h5⟩
    by_cases h6 : v < 1000000
    · exact ⟨5, by omega, Or.inl (by omega), h6⟩
    exact ⟨6, by omega, Or.inl (by omega), by omega⟩
  obtain ⟨k, h1, h2, h3⟩ := key
  have e := dg_of (by omega) h2 h3
  rw [e]
  exact ⟨h2, h3, h1⟩
theorem dg_lo {v j : Nat} (hv : v < 10 ^ 7) (h : 10 ^ j ≤ v) : j ≤ dgE 9 v := by
  have h2 := (dg_in hv).2.1
  refine Nat.le_of_lt_succ (Nat.lt_of_not_le fun q => ?_)
  have := Nat.pow_le_pow_right (n := 10) (by omega) q
  omega
theorem dg_hi {v j : Nat} (hv : v < 10 ^ 7) (h : v < 10 ^ (j + 1)) : dgE 9 v ≤ j := by
  refine Nat.le_of_not_lt fun q => ?_
  rcases (dg_in hv).1 with h2 | h2
  · have := Nat.pow_le_pow_right (n := 10) (by omega) (show j + 1 ≤ dgE 9 v from q)
    omega
  · omega
theorem gc_e {k : Nat} : 10 ^ (2 * k) * 100 = 10 ^ (2 * (k + 1)) := by
  rw [show 2 * (k + 1) = 2 * k + 2 by omega, Nat.pow_add]
/-- digits by twos: what one turn does -/
theorem gc_div {v k : Nat} (hv : v < 10 ^ 7) : (-nI (v / 10 ^ (2 * k))) / 100 = -nI (v / 10 ^ (2 * (k + 1))) := by
  have := Nat.div_le_self v (10 ^ (2 * k))
  rw [sb_ndiv (by omega), Nat.div_div_eq_div_mul, gc_e]
theorem gc_rem {v k : Nat} (hv : v < 10 ^ 7) : (-nI (v / 10 ^ (2 * (k + 1)))) * 100 - (-nI (v / 10 ^ (2 * k))) = nI (v / 10 ^ (2 * k) % 100) := by
  have := Nat.div_le_self v (10 ^ (2 * k))
  rw [show v / 10 ^ (2 * (k + 1)) = v / 10 ^ (2 * k) / 100 by rw [Nat.div_div_eq_div_mul, gc_e]]
  exact sb_nrem (by omega)
theorem gc_step {f : pS} {v k P w : Nat} (h : 2 ≤ P) (hw : w = v / 10 ^ (2 * k)) : upd (upd (putL f P (lsD v (2 * k))) (P - 1) (jT1 (w % 100))) (P - 1 - 1) (jT2 (w % 100)) = putL f (P - 1 - 1) (lsD v (2 * (k + 1))) := by
  obtain ⟨m, rfl⟩ : ∃ m, P = m + 2 := ⟨P - 2, by omega⟩
  show upd (upd (putL f (m + 1 + 1) (lsD v (2 * k))) (m + 1) (jT1 (w % 100))) m (jT2 (w % 100)) = putL f m (lsD v (2 * k + 2))
  rw [putL_cons, putL_cons, lsD_2 hw]
  unfold jT1 jT2
  rw [show w % 100 % 10 = w % 10 by omega, show w % 100 / 10 = w / 10 % 10 by omega]
theorem gc_one {f : pS} {v k n w : Nat} (hw : w = v / 10 ^ (2 * k)) (hE : dgE 9 v = 2 * k) : upd (putL f (n + 1) (lsD v (2 * k))) n (jT1 w) = putL f n (dig v) := by
  rw [putL_cons, dig_ls, hE, lsD_1 hw]
  rfl
theorem gc_two {f : pS} {v k n w : Nat} (hw : w = v / 10 ^ (2 * k)) (hE : dgE 9 v = 2 * k + 1) (h100 : w < 100) : upd (upd (putL f (n + 2) (lsD v (2 * k))) (n + 1) (jT1 w)) n (jT2 w) = putL f n (dig v) := by
  have e : upd (putL f (n + 2) (lsD v (2 * k))) (n + 1) (jT1 w) = putL f (n + 1) (jT1 w :: lsD v (2 * k)) := putL_cons
  rw [e, putL_cons, dig_ls, hE, lsD_2 hw, show w / 10 % 10 = w / 10 by omega]
  rfl
