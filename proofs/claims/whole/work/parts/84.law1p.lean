/-! ===== the law: what each call is compared by ===== -/
theorem lg_self (x : Int64) : lg_cmp x x = 0 := by
  unfold lg_cmp
  simp
def pCh (x : Int32) : Int32 := (x.toUInt32 % 65536).toInt32
theorem pCh_nar (x : Int32) : vp_nar .char (pCh x) = pCh x := by
  have h : (pCh x).toUInt32 % 65536 = x.toUInt32 % 65536 := by
    unfold pCh
    rw [UInt32.toUInt32_toInt32]
    apply UInt32.toNat_inj.mp
    simp [UInt32.toNat_mod]
  show ((pCh x).toUInt32 % 65536).toInt32 = pCh x
  rw [h]
  rfl
theorem jm8 {z : Nat} (hz : z ≤ 8) : jmin 8 (nI z + 1) = nI (min 8 (z + 1)) := by
  have key : ∀ t : Nat, t ≤ 8 → jmin 8 (nI t + 1) = nI (min 8 (t + 1)) := by decide +kernel
  exact key z hz
theorem acV_e {F S : pS} {x sz ln : Int32} (h6 : F 6 = sz) (h12 : F 12 = ln) : acV F S x = acV (acF sz ln) S x := by
  subst h6
  subst h12
  rfl
theorem gT_0 {t v : Int32} (h : t = 0) : gT t v = v := if_pos h
section KBM
variable {p : Program} {l : Launch} {e : Env} {R : Room} {s : State} {m : MethodId} {args : Array Value} {below : List Frame} {meth : Method} {c : Code} {H : Heap} {locs : List Loc} {cells slots : Nat} {Q : State → Prop}
variable {cc : ByteArray} {pc : Nat} {ls : Array Slot} {rest : List Value} {D : va_G} {A : Nat → Prop} {a : Nat} {tys : List (ClassId × FieldType)} {Bs : List va_W} {H0 : Heap}
theorem r_lald (hexec : p.tables.exec = Jvm.exec) (hb : c.code = cc) (w : kW D tys A H0 s H locs Bs) (i j : Nat) {B : va_W} (hB : Bs[i]? = some B) {cA : ClassId} {n : Nat} {f : Nat → Int64} (he : B[j]? = some (a, .inl (cA, n, .inr (.inl f)))) (t0 : Nat) (ht : tys[t0]? = some (cA, .long)) (q : Nat) (hq : q < n) (hn : n < 2 ^ 31) {x : Int32} {v : Int64} (hx : x = nI q) (hv : f q = v) (hdg : decode cc pc = .ok (.laload, 1))
    (kk : W p l e R s m args below meth c H locs cells slots Q (F0 m (pc + 1) ls (.long v :: rest))) : W p l e R s m args below meth c H locs cells slots Q (F0 m pc ls (.int x :: .ref a :: rest)) := by
  subst hx
  have h := nI_clamp (show q < 2 ^ 31 by omega)
  refine va_lald hexec hb w.1 w.2.1 _ t0 (k_fget _ i j B _ hB he) ht (vp_in_nI hq hn) hdg ?_
  rw [h, hv]
  exact kk
theorem r_dald (hexec : p.tables.exec = Jvm.exec) (hb : c.code = cc) (w : kW D tys A H0 s H locs Bs) (i j : Nat) {B : va_W} (hB : Bs[i]? = some B) {cA : ClassId} {n : Nat} {f : Nat → UInt64} (he : B[j]? = some (a, .inl (cA, n, .inr (.inr (.inr (.inl f)))))) (t0 : Nat) (ht : tys[t0]? = some (cA, .double)) (q : Nat) (hq : q < n) (hn : n < 2 ^ 31) {x : Int32} {v : UInt64} (hx : x = nI q) (hv : f q = v) (hdg : decode cc pc = .ok (.daload, 1))
    (kk : W p l e R s m args below meth c H locs cells slots Q (F0 m (pc + 1) ls (.double v :: rest))) : W p l e R s m args below meth c H locs cells slots Q (F0 m pc ls (.int x :: .ref a :: rest)) := by
  subst hx
  have h := nI_clamp (show q < 2 ^ 31 by omega)
  refine va_dald hexec hb w.1 w.2.1 _ t0 (k_fget _ i j B _ hB he) ht (vp_in_nI hq hn) hdg ?_
  rw [h, hv]
  exact kk
theorem r_sld (hexec : p.tables.exec = Jvm.exec) (hb : c.code = cc) (w : kW D tys A H0 s H locs Bs) {b L : Nat} {xs : Nat → Int32} (hX : va_X b L xs s H0) (hbl : b < H0.size) (hbA : ¬ A b) (q : Nat) (hq : q < L) (hn : L < 2 ^ 31) {x : Int32} (hx : x = nI q) (hdg : decode cc pc = .ok (.iaload, 1))
    (kk : W p l e R s m args below meth c H locs cells slots Q (F0 m (pc + 1) ls (.int (xs q) :: rest))) : W p l e R s m args below meth c H locs cells slots Q (F0 m pc ls (.int x :: .ref b :: rest)) := by
  subst hx
  have h := nI_clamp (show q < 2 ^ 31 by omega)
  refine va_sld hexec hb hX hbl hbA w.2.2.2.1 (vp_in_nI hq hn) hdg ?_
  rw [h]
  exact kk
end KBM
/-- what stands over the whole walk of the law -/
def LCtx (J : Nat → Nat) (p : Program) (s : State) (m : MethodId) (meth : Method) (c : Code) (b L : Nat) (xs : Nat → Int32) : Prop :=
  p.tables.exec = Jvm.exec ∧ c.code = code ∧ c.maxLocals = 9 ∧ s.vm.findClass RL = some m.cls ∧ (∀ w ∈ wsL_law, w.before #[Value.ref b] s = true) ∧ kNc s ∧ kZ (fun q => s.heap.size ≤ q) s ∧ kJ J (fun q => s.heap.size ≤ q) s ∧ va_X b L xs s s.heap ∧ b < s.heap.size ∧ L ≤ 2048
theorem t1_no {b : Bool} (h : ¬ t1 b = 0) : t1 b = 1 := by
  unfold t1 at h ⊢
  split
  · rename_i c
    rw [if_pos c] at h
    exact absurd rfl h
  · rfl
theorem t2_no {t : Int32} (h : t = 0 ∨ t = 1 ∨ t = 2) (hn : ¬ t = 0) : t = if t = 2 then 2 else 1 := by
  rcases h with h | h | h
  · exact absurd h hn
  · subst h; rfl
  · subst h; rfl
theorem t2_ne {t : Int32} : ¬ (if t = 2 then (2 : Int32) else 1) = 0 := by
  split <;> decide
theorem tHo_v {n : Nat} {h x : Int32} : tHo n h x = 0 ∨ tHo n h x = 1 ∨ tHo n h x = 2 := by
  unfold tHo
  split
  · split
    · exact Or.inl rfl
    · exact Or.inr (Or.inr rfl)
  · exact Or.inr (Or.inl rfl)
theorem tWin_v {n : Nat} {a j : Int32} : tWin n a j = 0 ∨ tWin n a j = 1 ∨ tWin n a j = 2 := by
  unfold tWin
  split
  · split
    · exact Or.inr (Or.inr rfl)
    · exact Or.inl rfl
  · exact Or.inr (Or.inl rfl)
theorem tBy_v {n : Nat} {h v : Int32} : tBy n h v = 0 ∨ tBy n h v = 1 ∨ tBy n h v = 2 := by
  unfold tBy
  split
  · split
    · exact Or.inl rfl
    · exact Or.inr (Or.inr rfl)
  · exact Or.inr (Or.inl rfl)
theorem tTurn_v {S : pS} {n q : Nat} {h : Int32} : tTurn S n q h = 0 ∨ tTurn S n q h = 1 ∨ tTurn S n q h = 2 := by
  unfold tTurn
  split
  · split
    · exact Or.inr (Or.inr rfl)
    · exact Or.inl rfl
  · exact Or.inr (Or.inl rfl)
theorem tDr_v {S : pS} {d : Int32} : tDr S d = 0 ∨ tDr S d = 1 ∨ tDr S d = 2 := by
  unfold tDr
  split
  · split
    · exact Or.inr (Or.inr rfl)
    · exact Or.inl rfl
  · exact Or.inr (Or.inl rfl)
theorem tReason_v {F : pS} {x : Int32} : tReason F x = 0 ∨ tReason F x = 1 ∨ tReason F x = 2 := by
  unfold tReason
  split
  · split
    · exact Or.inr (Or.inr rfl)
    · exact Or.inl rfl
  · exact Or.inr (Or.inl rfl)
theorem tShare_v {S : pS} {n : Nat} {v : Int32} : tShare S n v = 0 ∨ tShare S n v = 1 ∨ tShare S n v = 2 := by
  unfold tShare
  split
  · split
    · exact Or.inr (Or.inr rfl)
    · exact Or.inl rfl
  · exact Or.inr (Or.inl rfl)
theorem tMean_no {n : Nat} (h : ¬ tMean n = 0) : tMean n = 1 := by
  unfold tMean at h ⊢
  split
  · rfl
  · rename_i c
    rw [if_neg c] at h
    exact absurd rfl h
theorem rs_t {F : pS} {f0 f1 f2 x : Int32} (d0 : f0 = F 8) : tReason F x = tReason (rsF f0 f1 f2) x := by
  unfold tReason
  rw [← d0]
  rfl
theorem rs_v {F : pS} {f0 f1 f2 x : Int32} (d0 : f0 = F 8) (d1 : f1 = F 9) (d2 : f2 = F 10) : vReason F x = vReason (rsF f0 f1 f2) x := by
  unfold vReason
  rw [← d0, ← d1, ← d2]
  rfl
theorem sq_e {S T : pS} (h : ∀ k, k < 215 → S k = T k) : sqA 215 S = sqA 215 T := by
  funext k
  unfold sqA
  split
  · rename_i c
    exact h k c
  · rfl
theorem dc_self {x : UInt64} (h : vf_n64 x) : Op.cmpValue (FP.dcmp x x) .l = 0 := by
  have h2 : FP.Core.val64 x ≠ .nan := fun q => by
    have := fl_64.mp h
    rw [← Bool.not_eq_true, FP.Core.dIsNaN_iff] at this
    exact this q
  rw [show FP.dcmp x x = some .eq from FP.Core.dcmp_self h2]
  rfl
/-! texts: a letter more -/
theorem LRel.app {B : Nat} {S M V U : pS} {HX : Nat → pX} {z nx : Nat} {bb : Bool} {lf f0 f1 f2 : Int32} {zt n : Nat} {ch f F V0 : pS} {HA wr : Nat → Int32} {v : Int32} (h : LRel B S M V U HX z nx bb lf f0 f1 f2 zt n ch f F V0 HA wr) (hz : zt < 60) (hv : vp_nar .char v = v) : LRel B S M V U HX z nx bb lf f0 f1 f2 (zt + 1) n (upd ch zt v) f (apF F zt) V0 HA wr := by
  have e0 : apF F zt = upd (upd F 7 0) 12 (nI (zt + 1)) := if_neg (by omega)
  have e : ∀ k, k ≠ 7 → k ≠ 12 → apF F zt k = F k := fun k h1 h2 => by rw [e0, updn h2, updn h1]
  obtain ⟨a1, b1, c1, d1, ⟨g1, g2, g3⟩, k1⟩ := h
  unfold LRel
  rw [e 5 (by omega) (by omega), e 6 (by omega) (by omega), e 8 (by omega) (by omega), e 9 (by omega) (by omega), e 10 (by omega) (by omega), e 13 (by omega) (by omega), e 15 (by omega) (by omega)]
  refine ⟨a1, b1, c1, d1, ⟨by omega, ?_, fun k hk => ?_⟩, k1⟩
  · rw [e0, upds rfl]
  · by_cases q : k = zt
    · subst q
      rw [upds rfl]
      exact hv
    · rw [updn q]
      exact g3 k (by omega)
/-! commands: the text read -/
theorem LRel.rd {B : Nat} {S M V U : pS} {HX : Nat → pX} {z nx : Nat} {bb : Bool} {lf f0 f1 f2 : Int32} {zt n : Nat} {ch f F V0 : pS} {HA wr : Nat → Int32} {K L : pS} {t : Int32} (h : LRel B S M V U HX z nx bb lf f0 f1 f2 zt n ch f F V0 HA wr) : LRel B S M V U HX z nx bb (raA ch zt K L).2.1 f0 f1 f2 0 n ch f (upd (rdF F ch zt K L) 7 t) V0 HA wr := by
  have e : ∀ k, k ≠ 7 → k ≠ 18 → k ≠ 12 → k ≠ 19 → k ≠ 20 → k ≠ 21 → k ≠ 13 → upd (rdF F ch zt K L) 7 t k = F k := fun k h1 h2 h3 h4 h5 h6 h7 => by
    unfold rdF
    rw [updn h1, updn h7, updn h6, updn h5, updn h4, updn h3, updn h2]
  have e12 : upd (rdF F ch zt K L) 7 t 12 = 0 := by
    unfold rdF
    rw [updn (by omega), updn (by omega), updn (by omega), updn (by omega), updn (by omega), upds rfl]
  have e13 : upd (rdF F ch zt K L) 7 t 13 = (raA ch zt K L).2.1 := by
    unfold rdF
    rw [updn (by omega), upds rfl]
  obtain ⟨a1, b1, c1, ⟨d1, d2, d3, d4⟩, ⟨g1, g2, g3⟩, k1⟩ := h
  unfold LRel
  rw [e 5 (by omega) (by omega) (by omega) (by omega) (by omega) (by omega) (by omega), e 6 (by omega) (by omega) (by omega) (by omega) (by omega) (by omega) (by omega), e 8 (by omega) (by omega) (by omega) (by omega) (by omega) (by omega) (by omega), e 9 (by omega) (by omega) (by omega) (by omega) (by omega) (by omega) (by omega), e 10 (by omega) (by omega) (by omega) (by omega) (by omega) (by omega) (by omega), e 15 (by omega) (by omega) (by omega) (by omega) (by omega) (by omega) (by omega), e12, e13]
  exact ⟨a1, b1, c1, ⟨d1, d2, d3, rfl⟩, ⟨by omega, rfl, fun k hk => absurd hk (Nat.not_lt_zero k)⟩, k1⟩
theorem cG_ext {K U K' U' : pS} {N : Nat} : ∀ (m i : Nat) (X : pX), i + m ≤ N → (∀ j, j < N → K j = K' j ∧ U j = U' j) → cG K U m i X = cG K' U' m i X
  | 0, i, X, _, _ => rfl
  | m + 1, i, X, hN, h => by
    have hi := h i (by omega)
    by_cases c : (dW X.1 (K i) (U i)).1 = 0
    · rw [cG_y c, cG_y (by rw [← hi.1, ← hi.2]; exact c), cG_ext m (i + 1) _ (by omega) h, hi.1, hi.2]
    · rw [cG_n c, cG_n (by rw [← hi.1, ← hi.2]; exact c), hi.1, hi.2]
theorem cG_pos {K U : pS} : ∀ (m i : Nat) (X : pX), ¬ (cG K U m i X).1.1 = 0 → i + 1 ≤ (cG K U m i X).2.1
  | 0, i, X, h => absurd rfl h
  | m + 1, i, X, h => by
    by_cases c : (dW X.1 (K i) (U i)).1 = 0
    · rw [cG_y c] at h ⊢
      have := cG_pos m (i + 1) _ h
      omega
    · rw [cG_n c]
      exact Nat.le_refl _
/-! undo, save, restore -/
theorem LRel.un {B : Nat} {S M V U : pS} {HX : Nat → pX} {z nx : Nat} {bb : Bool} {lf f0 f1 f2 : Int32} {zt n : Nat} {ch f F V0 : pS} {HA wr : Nat → Int32} (h : LRel B S M V U HX z nx bb lf f0 f1 f2 zt n ch f F V0 HA wr) (hz : 0 < z) : LRel B (HX ((nx + 7) % 8)).1 (HX ((nx + 7) % 8)).2 V U HX (z - 1) ((nx + 7) % 8) bb lf f0 f1 f2 zt n ch f (unF F z) V0 HA wr := by
  have e0 : unF F z = upd (upd F 7 0) 6 (nI (z - 1)) := if_neg (by omega)
  have e : ∀ k, k ≠ 7 → k ≠ 6 → unF F z k = F k := fun k h1 h2 => by rw [e0, updn h2, updn h1]
  obtain ⟨⟨a1, a2, a3⟩, ⟨b1, b2, b3, b4⟩, c1, d1, g1, k1⟩ := h
  unfold LRel
  rw [e 5 (by omega) (by omega), e 8 (by omega) (by omega), e 9 (by omega) (by omega), e 10 (by omega) (by omega), e 13 (by omega) (by omega), e 12 (by omega) (by omega), e 15 (by omega) (by omega)]
  refine ⟨⟨a3 _ (by omega), a2, a3⟩, ⟨by omega, by omega, ?_, fun j hj k hk => ?_⟩, c1, d1, g1, k1⟩
  · rw [e0, upds rfl]
  · rw [show ((nx + 7) % 8 + 8 - (z - 1) + j) % 8 = (nx + 8 - z + j) % 8 by omega]
    exact b4 j (by omega) k hk
theorem un_row {HX : Nat → pX} {HA : Nat → Int32} {S : pS} {z nx : Nat} (hz8 : z ≤ 8) (hnx : nx < 8) (hz : 0 < z) (h : ∀ j, j < z → ∀ k, k < 215 → hAt HA j k = (HX ((nx + 8 - z + j) % 8)).1 k) : sqA 215 (unS HA S z) = sqA 215 (HX ((nx + 7) % 8)).1 := by
  unfold unS
  rw [if_neg (by omega)]
  refine sq_e fun k hk => ?_
  rw [h (z - 1) (by omega) k hk, show (nx + 8 - z + (z - 1)) % 8 = (nx + 7) % 8 by omega]
theorem LRel.sv {B : Nat} {S M V U : pS} {HX : Nat → pX} {z nx : Nat} {bb : Bool} {lf f0 f1 f2 : Int32} {zt n : Nat} {ch f F V0 : pS} {HA wr : Nat → Int32} (h : LRel B S M V U HX z nx bb lf f0 f1 f2 zt n ch f F V0 HA wr) : LRel B S M S M HX z nx true lf f0 f1 f2 zt n ch f (upd (upd F 7 0) 5 1) S HA wr := by
  have e : ∀ k, k ≠ 7 → k ≠ 5 → upd (upd F 7 0) 5 1 k = F k := fun k h1 h2 => by rw [updn h2, updn h1]
  obtain ⟨⟨a1, a2, a3⟩, b1, c1, d1, g1, k1⟩ := h
  unfold LRel
  rw [e 6 (by omega) (by omega), e 8 (by omega) (by omega), e 9 (by omega) (by omega), e 10 (by omega) (by omega), e 13 (by omega) (by omega), e 12 (by omega) (by omega), e 15 (by omega) (by omega)]
  exact ⟨⟨a1, a1, a3⟩, b1, ⟨upds rfl, fun _ k _ => rfl⟩, d1, g1, k1⟩
theorem LRel.rs {B : Nat} {S M V U : pS} {HX : Nat → pX} {z nx : Nat} {bb : Bool} {lf f0 f1 f2 : Int32} {zt n : Nat} {ch f F V0 : pS} {HA wr : Nat → Int32} (h : LRel B S M V U HX z nx bb lf f0 f1 f2 zt n ch f F V0 HA wr) : LRel B V U V U HX 0 nx bb lf f0 f1 f2 zt n ch f (upd (upd F 7 0) 6 0) V0 HA wr := by
  have e : ∀ k, k ≠ 7 → k ≠ 6 → upd (upd F 7 0) 6 0 k = F k := fun k h1 h2 => by rw [updn h2, updn h1]
  obtain ⟨⟨a1, a2, a3⟩, ⟨b1, b2, b3, b4⟩, c1, d1, g1, k1⟩ := h
  unfold LRel
  rw [e 5 (by omega) (by omega), e 8 (by omega) (by omega), e 9 (by omega) (by omega), e 10 (by omega) (by omega), e 13 (by omega) (by omega), e 12 (by omega) (by omega), e 15 (by omega) (by omega)]
  exact ⟨⟨a2, a2, a3⟩, ⟨by omega, b2, upds rfl, fun j hj => absurd hj (Nat.not_lt_zero j)⟩, c1, d1, g1, k1⟩
/-! a line -/
def cOk (x : Int32) : Prop := ∃ q : Nat, q < 128 ∧ x = nI q
theorem dig_ok {d : Nat} : ∀ x ∈ dig d, cOk x := fun x hx => by
  unfold dig at hx
  obtain ⟨i, -, rfl⟩ := List.mem_map.mp hx
  exact ⟨_, by omega, rfl⟩
theorem one_ok {c : Nat} (h : c < 128) : ∀ x ∈ [nI c], cOk x := fun x hx => by
  rw [List.mem_singleton.mp hx]
  exact ⟨c, h, rfl⟩
theorem lnT_ok {kd d a b : Nat} : ∀ x ∈ lnT kd d a b, cOk x := by
  unfold lnT
  split
  · refine List.forall_mem_append.mpr ⟨List.forall_mem_append.mpr ⟨List.forall_mem_append.mpr ⟨List.forall_mem_append.mpr ⟨List.forall_mem_append.mpr ⟨List.forall_mem_append.mpr ⟨one_ok (c := 100) (by omega), dig_ok⟩, one_ok (c := 32) (by omega)⟩, one_ok (c := 104) (by omega)⟩, dig_ok⟩, ?_⟩, dig_ok⟩
    split
    · exact one_ok (c := 98) (by omega)
    · exact one_ok (c := 120) (by omega)
  · split
    · exact List.forall_mem_append.mpr ⟨List.forall_mem_append.mpr ⟨List.forall_mem_append.mpr ⟨List.forall_mem_append.mpr ⟨List.forall_mem_append.mpr ⟨List.forall_mem_append.mpr ⟨one_ok (c := 100) (by omega), dig_ok⟩, one_ok (c := 32) (by omega)⟩, one_ok (c := 108) (by omega)⟩, one_ok (c := 97) (by omega)⟩, one_ok (c := 119) (by omega)⟩, dig_ok⟩
    · exact List.forall_mem_append.mpr ⟨List.forall_mem_append.mpr ⟨List.forall_mem_append.mpr ⟨List.forall_mem_append.mpr ⟨List.forall_mem_append.mpr ⟨List.forall_mem_append.mpr ⟨List.forall_mem_append.mpr ⟨List.forall_mem_append.mpr ⟨List.forall_mem_append.mpr ⟨one_ok (c := 100) (by omega), dig_ok⟩, one_ok (c := 32) (by omega)⟩, one_ok (c := 108) (by omega)⟩, one_ok (c := 101) (by omega)⟩, one_ok (c := 97) (by omega)⟩, one_ok (c := 116) (by omega)⟩, one_ok (c := 104) (by omega)⟩, one_ok (c := 101) (by omega)⟩, one_ok (c := 114) (by omega)⟩
theorem putL_at {g : pS} {L : List Int32} {i : Nat} (h : i < L.length) : putL g 0 L i = L.getD i 0 := by
  unfold putL
  rw [if_pos (by omega), Nat.sub_zero]
theorem LRel.ln {B : Nat} {S M V U : pS} {HX : Nat → pX} {z nx : Nat} {bb : Bool} {lf f0 f1 f2 : Int32} {zt n : Nat} {ch f F V0 : pS} {HA wr : Nat → Int32} {L : List Int32} (h : LRel B S M V U HX z nx bb lf f0 f1 f2 zt n ch f F V0 HA wr) (hL : L.length ≤ 16) (hc : ∀ x ∈ L, cOk x) : LRel B S M V U HX z nx bb lf f0 f1 f2 zt L.length ch (putL f 0 L) (upd (upd F 7 0) 15 (nI L.length)) V0 HA (putL wr 0 L) := by
  have e : ∀ k, k ≠ 7 → k ≠ 15 → upd (upd F 7 0) 15 (nI L.length) k = F k := fun k h1 h2 => by rw [updn h2, updn h1]
  obtain ⟨a1, b1, c1, d1, g1, k1⟩ := h
  unfold LRel
  rw [e 5 (by omega) (by omega), e 6 (by omega) (by omega), e 8 (by omega) (by omega), e 9 (by omega) (by omega), e 10 (by omega) (by omega), e 13 (by omega) (by omega), e 12 (by omega) (by omega)]
  refine ⟨a1, b1, c1, d1, g1, hL, upds rfl, fun i hi => ⟨?_, ?_⟩⟩
  · rw [putL_at hi, putL_at hi]
  · rw [putL_at hi]
    refine hc _ ?_
    rw [List.getD_eq_getElem?_getD, List.getElem?_eq_getElem hi]
    exact List.getElem_mem hi
/-- every minute's text, by the ring and by the row -/
theorem ln_all {B : Nat} {S M : pS} (h : MM B (S, M)) : ∃ mm x, S 122 = nI mm ∧ M 0 = nI mm ∧ M 1 = nI x ∧ x < 20 ∧ mm ≤ 20 ∧ (∀ j, j < mm → mRow S j) ∧ ∀ j, j < mm → ∃ kd dd da db, mEn M ((x + 20 - mm + j) % 20) kd dd da db ∧ lnS S j = lnT kd dd da db := by
  obtain ⟨⟨c, x, ⟨hc, hx, h1, h2, h3, h4⟩, hm⟩, -⟩ := h
  refine ⟨c, x, h1, h2, h3, hx, hc, hm, fun j hj => ?_⟩
  obtain ⟨kd, d, a, b, g0, g1, g2, g3, k0, k1, k2, k3⟩ := hm j hj
  obtain ⟨m0, m1, m2, m3⟩ := h4 j hj
  have er : rix x c j = (x + 20 - c + j) % 20 := by unfold rix; omega
  rw [er] at m0 m1 m2 m3
  exact ⟨kd, d, a, b, ⟨m0.symm.trans g0, m1.symm.trans g1, m2.symm.trans g2, m3.symm.trans g3, k0, k1, k2, k3⟩, lnS_e g0 g1 g2 g3 k0 k1 k2 k3⟩
theorem ln_b {S : pS} {j : Nat} (h : mRow S j) : (lnS S j).length ≤ 16 ∧ ∀ x ∈ lnS S j, cOk x := by
  obtain ⟨kd, d, a, b, g0, g1, g2, g3, k0, k1, k2, k3⟩ := h
  rw [lnS_e g0 g1 g2 g3 k0 k1 k2 k3]
  exact ⟨lnT_b k1 k2 k3, lnT_ok⟩
theorem ch_nar : ∀ {q : Nat}, q < 128 → vp_nar .char (nI q) = nI q := by
  have key : ∀ q : Nat, q < 128 → vp_nar .char (nI q) = nI q := by decide +kernel
  exact fun {q} h => key q h
theorem t1_y {b : Bool} (h : t1 b = 0) : b = true := by
  cases b
  · exact absurd h (by decide)
  · rfl
theorem hdr_IV {B : Nat} {X : pX} (h : IV B X) : X.1 207 = 0 ∨ X.1 207 = 1 := by
  obtain ⟨⟨n, q, hA⟩, -⟩ := h
  exact hA.1.2.2.2.2.2.2.1
theorem vSh_n {S : pS} {n : Nat} {v : Int32} (h : tShare S n v = 0) : vf_n64 (vShare S v) := by
  have h2 : ¬ S 210 = 0 := fun q => by
    unfold tShare at h
    split at h
    · first
      | exact absurd h (by decide)
      | (rw [if_pos q] at h; exact absurd h (by decide))
    · exact absurd h (by decide)
  exact fl_d h2
section KBN
variable {p : Program} {l : Launch} {e : Env} {R : Room} {s : State} {m : MethodId} {args : Array Value} {below : List Frame} {meth : Method} {c : Code} {H : Heap} {locs : List Loc} {cells slots : Nat} {Q : State → Prop} {pc : Nat} {ls : Array Slot} {rest : List Value}
theorem r_eqv {x y : Value} (h : x = y) (kk : W p l e R s m args below meth c H locs cells slots Q (F0 m pc ls (y :: rest))) : W p l e R s m args below meth c H locs cells slots Q (F0 m pc ls (x :: rest)) := by
  subst h
  exact kk
end KBN
theorem LInv.w {D : va_G} {ty : Nat → ClassId} {A : Nat → Prop} {s : State} {g gm : Nat → Nat → Nat} {qo qd B : Nat} {H : Heap} {locs : List Loc} (h : LInv D ty A s g gm qo qd B H locs) : ∃ Bs : List va_W, kW D (kTY ty) A s.heap s H locs Bs := by
  obtain ⟨S, M, V, U, Y, HX, z, nx, bb, lf, f0, f1, f2, zt, n, ch, f, F, T, V0, HA, wr, cn, ml, le, nu, kd, ku, og, od, w, hR⟩ := h
  exact ⟨_, w⟩
theorem LInv.mono {D : va_G} {ty : Nat → ClassId} {A : Nat → Prop} {s : State} {g gm : Nat → Nat → Nat} {qo qd B B' : Nat} {H : Heap} {locs : List Loc} (h : LInv D ty A s g gm qo qd B H locs) (hB : B ≤ B') : LInv D ty A s g gm qo qd B' H locs := by
  obtain ⟨S, M, V, U, Y, HX, z, nx, bb, lf, f0, f1, f2, zt, n, ch, f, F, T, V0, HA, wr, cn, ml, le, nu, kd, ku, og, od, w, hR⟩ := h
  exact ⟨S, M, V, U, Y, HX, z, nx, bb, lf, f0, f1, f2, zt, n, ch, f, F, T, V0, HA, wr, cn, ml, le, nu, kd, ku, og, od, w, hR.mono hB⟩
