/-! ===== worlds as lists of blocks; rows over them; contracts that say a function ===== -/
def kOff (Bs : List va_W) (i : Nat) : Nat := ((Bs.take i).map List.length).sum
theorem k_fget : ∀ (Bs : List va_W) (i j : Nat) (B : va_W) (x : Nat × va_E), Bs[i]? = some B → B[j]? = some x → Bs.flatten[kOff Bs i + j]? = some x := by
  intro Bs
  induction Bs with
  | nil => intro i j B x h _; simp at h
  | cons C Bs ih =>
    intro i j B x h hj
    cases i with
    | zero =>
      rw [List.getElem?_cons_zero] at h
      cases h
      have hl := (List.getElem?_eq_some_iff.mp hj).1
      have e : kOff (C :: Bs) 0 + j = j := by simp [kOff]
      rw [e, List.flatten_cons, List.getElem?_append_left hl]
      exact hj
    | succ i =>
      rw [List.getElem?_cons_succ] at h
      have e : kOff (C :: Bs) (i + 1) + j = C.length + (kOff Bs i + j) := by
        simp only [kOff, List.take_succ_cons, List.map_cons, List.sum_cons]; omega
      rw [e, List.flatten_cons, List.getElem?_append_right (by omega), Nat.add_sub_cancel_left]
      exact ih i j B x h hj
theorem k_fset : ∀ (Bs : List va_W) (i j : Nat) (B : va_W) (x : Nat × va_E), Bs[i]? = some B → j < B.length → Bs.flatten.set (kOff Bs i + j) x = (Bs.set i (B.set j x)).flatten := by
  intro Bs
  induction Bs with
  | nil => intro i j B x h _; simp at h
  | cons C Bs ih =>
    intro i j B x h hj
    cases i with
    | zero =>
      rw [List.getElem?_cons_zero] at h
      cases h
      have e : kOff (C :: Bs) 0 + j = j := by simp [kOff]
      rw [e, List.flatten_cons, List.set_append, if_pos hj, List.set_cons_zero, List.flatten_cons]
    | succ i =>
      rw [List.getElem?_cons_succ] at h
      have e : kOff (C :: Bs) (i + 1) + j = C.length + (kOff Bs i + j) := by
        simp only [kOff, List.take_succ_cons, List.map_cons, List.sum_cons]; omega
      rw [e, List.flatten_cons, List.set_append, if_neg (by omega), Nat.add_sub_cancel_left, ih i j B x h hj, List.set_cons_succ, List.flatten_cons]
theorem k_P_perm {D : va_G} {cl : List vw_C} {w1 w2 : va_W} {H : Heap} (h : w1.Perm w2) (hP : va_P D cl w1 H) : va_P D cl w2 H := fun k q hk => by
  obtain ⟨i, hi⟩ := List.getElem?_of_mem (h.mem_iff.mpr (List.mem_of_getElem? hk))
  exact hP i q hi
theorem k_D_iff {A : Nat → Prop} {w : va_W} : va_D A w ↔ (w.map Prod.fst).Nodup ∧ ∀ q ∈ w, A q.1 := by
  constructor
  · intro hD
    refine ⟨?_, fun q hq => ?_⟩
    · unfold List.Nodup
      rw [List.pairwise_iff_getElem]
      intro i j hi hj hij
      rw [List.length_map] at hi hj
      rw [List.getElem_map, List.getElem_map]
      intro he
      have := hD.1 i j w[i] w[j] (List.getElem?_eq_getElem hi) (List.getElem?_eq_getElem hj) he
      omega
    · obtain ⟨i, hi⟩ := List.getElem?_of_mem hq
      exact hD.2 i q hi
  · rintro ⟨h1, h2⟩
    unfold List.Nodup at h1
    rw [List.pairwise_iff_getElem] at h1
    have key : ∀ (i j : Nat) (p q : Nat × va_E), w[i]? = some p → w[j]? = some q → p.1 = q.1 → ¬ i < j := by
      intro i j p q hi hj he hlt
      obtain ⟨a, rfl⟩ := List.getElem?_eq_some_iff.mp hi
      obtain ⟨b, rfl⟩ := List.getElem?_eq_some_iff.mp hj
      have := h1 i j (by rw [List.length_map]; exact a) (by rw [List.length_map]; exact b) hlt
      rw [List.getElem_map, List.getElem_map] at this
      exact this he
    refine ⟨fun i j p q hi hj he => ?_, fun k q hk => h2 q (List.mem_of_getElem? hk)⟩
    have a1 := key i j p q hi hj he
    have a2 := key j i q p hj hi he.symm
    omega
theorem k_D_perm {A : Nat → Prop} {w1 w2 : va_W} (h : w1.Perm w2) (hD : va_D A w1) : va_D A w2 := by
  obtain ⟨h1, h2⟩ := k_D_iff.mp hD
  exact k_D_iff.mpr ⟨(h.map Prod.fst).nodup_iff.mp h1, fun q hq => h2 q (h.mem_iff.mpr hq)⟩
theorem k_range (l : List va_W) : ∀ n : Nat, (List.range n).filterMap (fun i => l[i]?) = l.take n
  | 0 => by simp
  | n + 1 => by
    rw [List.range_succ, List.filterMap_append, k_range l n, List.take_add_one]
    congr 1
theorem k_idx {l : List va_W} {is : List Nat} (hp : is.Perm (List.range l.length)) : (is.filterMap (fun i => l[i]?)).Perm l := by
  have h := hp.filterMap (fun i => l[i]?)
  rw [k_range, List.take_length] at h
  exact h
theorem k_join {A0 : Nat → Prop} {D : va_G} {cl : List vw_C} {wc wr w1 : va_W} {H H1 : Heap} (hP : va_P D cl (wc ++ wr) H) (hD : va_D A0 (wc ++ wr)) (hk : ∀ q : Nat, q < H.size → ¬ va_A wc H.size q → H1[q]? = H[q]?) (hF : ∀ q, va_A wc H.size q → A0 q) (hP1 : va_P D cl w1 H1) (hD1 : va_D (va_A wc H.size) w1) : va_P D cl (w1 ++ wr) H1 ∧ va_D A0 (w1 ++ wr) := by
  have hR : ∀ (k : Nat) (q : Nat × va_E), wr[k]? = some q → (wc ++ wr)[wc.length + k]? = some q := fun k q h => by
    rw [List.getElem?_append_right (by omega), Nat.add_sub_cancel_left]; exact h
  have apart : ∀ (k : Nat) (q : Nat × va_E), wr[k]? = some q → q.1 < H.size ∧ ¬ va_A wc H.size q.1 := by
    intro k q hq
    have hl := (hP _ q (hR k q hq)).lt
    refine ⟨hl, fun h => ?_⟩
    rcases h with ⟨k2, e, h⟩ | h
    · have hk2 := (List.getElem?_eq_some_iff.mp h).1
      have h4 : (wc ++ wr)[k2]? = some (q.1, e) := by rw [List.getElem?_append_left hk2]; exact h
      have := hD.1 _ _ q (q.1, e) (hR k q hq) h4 rfl
      omega
    · omega
  have hDr : va_D A0 wr := ⟨fun i j p q hi hj h => by
    have := hD.1 _ _ p q (hR i p hi) (hR j q hj) h
    omega, fun k q h => hD.2 _ q (hR k q h)⟩
  refine ⟨va_P.app hP1 (fun k q hq => ?_), va_D.app (hD1.weaken (fun k q _ h => hF q.1 h)) hDr (fun i j x y hx hy hxy => ?_)⟩
  · obtain ⟨g1, g2⟩ := apart k q hq
    exact (hP _ q (hR k q hq)).kept (hk q.1 g1 g2)
  · exact (apart j y hy).2 (by rw [← hxy]; exact hD1.2 i x hx)
/-- the world at a point of a method: its blocks, all that may be written, what is as at the start -/
def kW (D : va_G) (tys : List (ClassId × FieldType)) (A : Nat → Prop) (H0 : Heap) (s : State) (H : Heap) (locs : List Loc) (Bs : List va_W) : Prop :=
  va_K D vwCl tys s ∧ va_P D vwCl Bs.flatten H ∧ va_D A Bs.flatten ∧ va_S A H0 H locs ∧ (∀ q : Nat, H0.size ≤ q → A q) ∧ kN s
theorem kW.cast {D : va_G} {tys : List (ClassId × FieldType)} {A : Nat → Prop} {H0 : Heap} {s : State} {H : Heap} {locs : List Loc} {Bs Bs' : List va_W} (w : kW D tys A H0 s H locs Bs) (h : Bs = Bs') : kW D tys A H0 s H locs Bs' := h ▸ w
theorem kW.flat {D : va_G} {tys : List (ClassId × FieldType)} {A : Nat → Prop} {H0 : Heap} {s : State} {H : Heap} {locs : List Loc} {Bs Bs' : List va_W} (w : kW D tys A H0 s H locs Bs) (h : Bs.flatten = Bs'.flatten) : kW D tys A H0 s H locs Bs' := by
  unfold kW at w ⊢
  rw [← h]
  exact w
/-- a contract's start and end -/
def kPre (D : va_G) (tys : List (ClassId × FieldType)) (as : List Value) (Bs : List va_W) (sz : Nat) : Array Value → State → Prop :=
  va_Pc as (fun U => U.heap.size = sz ∧ va_P D vwCl Bs.flatten U.heap ∧ va_K D vwCl tys U ∧ va_D (fun _ => True) Bs.flatten ∧ kN U)
def kQ (D : va_G) (tys : List (ClassId × FieldType)) (A : Nat → Prop) (Bs : List va_W) (t : State) : Prop := va_P D vwCl Bs.flatten t.heap ∧ va_K D vwCl tys t ∧ va_D A Bs.flatten
/-- y, called with as over the blocks Bs, returns the int r and leaves the blocks Bs' -/
def Mi (l : Launch) (y : MethodName) (ws : List Cond) (rm : Room) (D : va_G) (tys : List (ClassId × FieldType)) (as : List Value) (Bs Bs' : List va_W) (r : Int32) (mc ms : Nat) : Prop :=
  ∀ sz : Nat, Met l y ws rm (kPre D tys as Bs sz) (va_Qi (fun (x : Int32) (_ : Unit) => x = r) (fun _ t => kQ D tys (va_A Bs.flatten sz) Bs' t) (va_A Bs.flatten sz)) mc ms (va_A Bs.flatten sz)
def Mv (l : Launch) (y : MethodName) (ws : List Cond) (rm : Room) (D : va_G) (tys : List (ClassId × FieldType)) (as : List Value) (Bs Bs' : List va_W) (mc ms : Nat) : Prop :=
  ∀ sz : Nat, Met l y ws rm (kPre D tys as Bs sz) (va_Qv (fun (_ : Unit) => True) (fun _ t => kQ D tys (va_A Bs.flatten sz) Bs' t) (va_A Bs.flatten sz)) mc ms (va_A Bs.flatten sz)
theorem kPre_blind {D : va_G} {tys : List (ClassId × FieldType)} {as : List Value} {Bs : List va_W} {sz : Nat} : FrameBlind (kPre D tys as Bs sz) := fun a U g mk q => by
  obtain ⟨q0, q1, qP, qK, qD, qN⟩ := q
  exact ⟨q0, q1, qP, va_K.moved (u := U) (U := U.calling g mk a) (Vm.Alike.refl U.vm) qK, qD, qN.same rfl⟩
section KB1
variable {p : Program} {l : Launch} {e : Env} {R : Room} {s : State} {m : MethodId} {args : Array Value} {below : List Frame} {meth : Method} {c : Code} {H : Heap} {locs : List Loc} {cells slots : Nat} {Q : State → Prop}
variable {cc : ByteArray} {pc : Nat} {ls : Array Slot} {rest : List Value} {D : va_G} {A : Nat → Prop} {a : Nat} {tys : List (ClassId × FieldType)} {Bs : List va_W} {H0 : Heap}
theorem r_get (hexec : p.tables.exec = Jvm.exec) (hb : c.code = cc) {own C : String} {T : u_T} {N ci index : Nat} {Ts : List Cond} (hts : ∀ w ∈ Ts, w.before args s = true) (hin : ∀ w ∈ u_ws C T N, w ∈ Ts) (hown : s.vm.findClass own = some m.cls) (w : kW D tys A H0 s H locs Bs) (i j : Nat) {B : va_W} (hB : Bs[i]? = some B) {fs : List Value} (he : B[j]? = some (a, .inr (ci, fs))) (hc : vwCl[ci]? = some (C, T, N)) (k : Nat) (hk : k < N) {rf : String} (hlink : (Cond.fieldLink own index rf (T k).2.1 (T k).2.2.1).before args s = true) (hrf : rf = (T k).1) {v v' : Value} (hv : fs[k]? = some v) (hvv : v = v') (hdg : decode cc pc = .ok (.getfield index, 3))
    (kk : W p l e R s m args below meth c H locs cells slots Q (F0 m (pc + 3) ls (v' :: rest))) : W p l e R s m args below meth c H locs cells slots Q (F0 m pc ls (.ref a :: rest)) := by
  subst hvv
  subst hrf
  exact va_get hexec hb hts hin hown w.1 w.2.1 _ (k_fget _ i j B _ hB he) hc k hk hlink (fun _ h => h) hv hdg kk
theorem r_put (hexec : p.tables.exec = Jvm.exec) (hb : c.code = cc) {own C : String} {T : u_T} {N ci index : Nat} {Ts : List Cond} (hts : ∀ w ∈ Ts, w.before args s = true) (hin : ∀ w ∈ u_ws C T N, w ∈ Ts) (ty0 : Nat → FieldType) (hty : ∀ k, k < N → parseFieldDescriptor (T k).2.2.1 = some (ty0 k)) (hnm : ∀ a, a < N → ∀ b, b < N → a ≠ b → (T a).2.1 ≠ (T b).2.1) (hown : s.vm.findClass own = some m.cls) (w : kW D tys A H0 s H locs Bs) (i j : Nat) {B : va_W} (hB : Bs[i]? = some B) {fs : List Value} (he : B[j]? = some (a, .inr (ci, fs))) (hc : vwCl[ci]? = some (C, T, N)) (k : Nat) (hk : k < N) {rf : String} (hlink : (Cond.fieldLink own index rf (T k).2.1 (T k).2.2.1).before args s = true) (hrf : rf = (T k).1) (hfin : (T k).2.2.2 = false) {ty : FieldType} {v : Value} (hd : parseFieldDescriptor (T k).2.2.1 = some ty) (hn : narrow ty v = v) (hfit : fits ty v = true) (hl : k < fs.length) (B' : va_W) (hB' : B.set j (a, .inr (ci, fs.set k v)) = B') (Bs' : List va_W) (hBs : Bs.set i B' = Bs') (hdg : decode cc pc = .ok (.putfield index, 3))
    (kk : ∀ (H1 : Heap) (locs1 : List Loc), kW D tys A H0 s H1 locs1 Bs' → W p l e R s m args below meth c H1 locs1 cells slots Q (F0 m (pc + 3) ls rest)) : W p l e R s m args below meth c H locs cells slots Q (F0 m pc ls (v :: .ref a :: rest)) := by
  subst hrf
  refine va_put hexec hb hts hin ty0 hty hnm hown w.1 w.2.1 w.2.2.1 w.2.2.2.1 _ (k_fget _ i j B _ hB he) hc k hk hlink (fun _ h => h) hfin hd hn hfit hl hdg (fun H1 locs1 hP hD hS => kk H1 locs1 ?_)
  rw [k_fset _ i j B _ hB (List.getElem?_eq_some_iff.mp he).1, hB', hBs] at hP hD
  exact ⟨w.1, hP, hD, hS, w.2.2.2.2⟩
theorem r_putF (hexec : p.tables.exec = Jvm.exec) (hb : c.code = cc) {own C : String} {T : u_T} {N ci index : Nat} {Ts : List Cond} (hts : ∀ w ∈ Ts, w.before args s = true) (hin : ∀ w ∈ u_ws C T N, w ∈ Ts) (ty0 : Nat → FieldType) (hty : ∀ k, k < N → parseFieldDescriptor (T k).2.2.1 = some (ty0 k)) (hnm : ∀ a, a < N → ∀ b, b < N → a ≠ b → (T a).2.1 ≠ (T b).2.1) (hown : s.vm.findClass own = some m.cls) (hmn : meth.name = "<init>") (w : kW D tys A H0 s H locs Bs) (i j : Nat) {B : va_W} (hB : Bs[i]? = some B) {fs : List Value} (he : B[j]? = some (a, .inr (ci, fs))) (hc : vwCl[ci]? = some (C, T, N)) (k : Nat) (hk : k < N) {rf : String} (hlink : (Cond.fieldLink own index rf (T k).2.1 (T k).2.2.1).before args s = true) (hrf : rf = (T k).1) (hfin : (T k).2.2.2 = true) (hdecl : (T k).1 = own) {ty : FieldType} {v : Value} (hd : parseFieldDescriptor (T k).2.2.1 = some ty) (hn : narrow ty v = v) (hfit : fits ty v = true) (hl : k < fs.length) (B' : va_W) (hB' : B.set j (a, .inr (ci, fs.set k v)) = B') (Bs' : List va_W) (hBs : Bs.set i B' = Bs') (hdg : decode cc pc = .ok (.putfield index, 3))
    (kk : ∀ (H1 : Heap) (locs1 : List Loc), kW D tys A H0 s H1 locs1 Bs' → W p l e R s m args below meth c H1 locs1 cells slots Q (F0 m (pc + 3) ls rest)) : W p l e R s m args below meth c H locs cells slots Q (F0 m pc ls (v :: .ref a :: rest)) := by
  subst hrf
  refine va_putF hexec hb hts hin ty0 hty hnm hown w.1 w.2.1 w.2.2.1 w.2.2.2.1 _ (k_fget _ i j B _ hB he) hc k hk hlink (fun _ h => h) hfin hmn hdecl hd hn hfit hl hdg (fun H1 locs1 hP hD hS => kk H1 locs1 ?_)
  rw [k_fset _ i j B _ hB (List.getElem?_eq_some_iff.mp he).1, hB', hBs] at hP hD
  exact ⟨w.1, hP, hD, hS, w.2.2.2.2⟩
theorem r_getN (hexec : p.tables.exec = Jvm.exec) (hb : c.code = cc) {own C host : String} {T : u_T} {N ci index : Nat} {Ts : List Cond} (hts : ∀ w ∈ Ts, w.before args s = true) (hin : ∀ w ∈ u_ws C T N, w ∈ Ts) (hown : s.vm.findClass own = some m.cls) (w : kW D tys A H0 s H locs Bs) (i j : Nat) {B : va_W} (hB : Bs[i]? = some B) {fs : List Value} (he : B[j]? = some (a, .inr (ci, fs))) (hc : vwCl[ci]? = some (C, T, N)) (k : Nat) (hk : k < N) {rf : String} (hlink : va_Nw (.fieldLinkNest own index rf (T k).2.1 (T k).2.2.1 host) s) (hrf : rf = (T k).1) {v v' : Value} (hv : fs[k]? = some v) (hvv : v = v') (hdg : decode cc pc = .ok (.getfield index, 3))
    (kk : W p l e R s m args below meth c H locs cells slots Q (F0 m (pc + 3) ls (v' :: rest))) : W p l e R s m args below meth c H locs cells slots Q (F0 m pc ls (.ref a :: rest)) := by
  subst hvv
  subst hrf
  exact va_getN hexec hb hts hin hown w.1 w.2.1 _ (k_fget _ i j B _ hB he) hc k hk (hlink.use rfl) (fun _ h => h) hv hdg kk
theorem r_putN (hexec : p.tables.exec = Jvm.exec) (hb : c.code = cc) {own C host : String} {T : u_T} {N ci index : Nat} {Ts : List Cond} (hts : ∀ w ∈ Ts, w.before args s = true) (hin : ∀ w ∈ u_ws C T N, w ∈ Ts) (ty0 : Nat → FieldType) (hty : ∀ k, k < N → parseFieldDescriptor (T k).2.2.1 = some (ty0 k)) (hnm : ∀ a, a < N → ∀ b, b < N → a ≠ b → (T a).2.1 ≠ (T b).2.1) (hown : s.vm.findClass own = some m.cls) (w : kW D tys A H0 s H locs Bs) (i j : Nat) {B : va_W} (hB : Bs[i]? = some B) {fs : List Value} (he : B[j]? = some (a, .inr (ci, fs))) (hc : vwCl[ci]? = some (C, T, N)) (k : Nat) (hk : k < N) {rf : String} (hlink : va_Nw (.fieldLinkNest own index rf (T k).2.1 (T k).2.2.1 host) s) (hrf : rf = (T k).1) (hfin : (T k).2.2.2 = false) {ty : FieldType} {v : Value} (hd : parseFieldDescriptor (T k).2.2.1 = some ty) (hn : narrow ty v = v) (hfit : fits ty v = true) (hl : k < fs.length) (B' : va_W) (hB' : B.set j (a, .inr (ci, fs.set k v)) = B') (Bs' : List va_W) (hBs : Bs.set i B' = Bs') (hdg : decode cc pc = .ok (.putfield index, 3))
    (kk : ∀ (H1 : Heap) (locs1 : List Loc), kW D tys A H0 s H1 locs1 Bs' → W p l e R s m args below meth c H1 locs1 cells slots Q (F0 m (pc + 3) ls rest)) : W p l e R s m args below meth c H locs cells slots Q (F0 m pc ls (v :: .ref a :: rest)) := by
  subst hrf
  refine va_putN hexec hb hts hin ty0 hty hnm hown w.1 w.2.1 w.2.2.1 w.2.2.2.1 _ (k_fget _ i j B _ hB he) hc k hk (hlink.use rfl) (fun _ h => h) hfin hd hn hfit hl hdg (fun H1 locs1 hP hD hS => kk H1 locs1 ?_)
  rw [k_fset _ i j B _ hB (List.getElem?_eq_some_iff.mp he).1, hB', hBs] at hP hD
  exact ⟨w.1, hP, hD, hS, w.2.2.2.2⟩
theorem r_iald (hexec : p.tables.exec = Jvm.exec) (hb : c.code = cc) (w : kW D tys A H0 s H locs Bs) (i j : Nat) {B : va_W} (hB : Bs[i]? = some B) {cA : ClassId} {n : Nat} {f : Nat → Int32} (he : B[j]? = some (a, .inl (cA, n, .inl f))) (t0 : Nat) (ht : tys[t0]? = some (cA, .int)) (q : Nat) (hq : q < n) (hn : n < 2 ^ 31) {x v : Int32} (hx : x = nI q) (hv : f q = v) (hdg : decode cc pc = .ok (.iaload, 1))
    (kk : W p l e R s m args below meth c H locs cells slots Q (F0 m (pc + 1) ls (.int v :: rest))) : W p l e R s m args below meth c H locs cells slots Q (F0 m pc ls (.int x :: .ref a :: rest)) := by
  subst hx
  subst hv
  have h := nI_clamp (show q < 2 ^ 31 by omega)
  refine va_iald hexec hb w.1 w.2.1 _ t0 (k_fget _ i j B _ hB he) ht (vp_in_nI hq hn) hdg ?_
  rw [h]
  exact kk
theorem r_cald (hexec : p.tables.exec = Jvm.exec) (hb : c.code = cc) (w : kW D tys A H0 s H locs Bs) (i j : Nat) {B : va_W} (hB : Bs[i]? = some B) {cA : ClassId} {n : Nat} {f : Nat → Int32} (he : B[j]? = some (a, .inl (cA, n, .inl f))) (t0 : Nat) (ht : tys[t0]? = some (cA, .char)) (q : Nat) (hq : q < n) (hn : n < 2 ^ 31) {x v : Int32} (hx : x = nI q) (hv : f q = v) (hdg : decode cc pc = .ok (.caload, 1))
    (kk : W p l e R s m args below meth c H locs cells slots Q (F0 m (pc + 1) ls (.int v :: rest))) : W p l e R s m args below meth c H locs cells slots Q (F0 m pc ls (.int x :: .ref a :: rest)) := by
  subst hx
  subst hv
  have h := nI_clamp (show q < 2 ^ 31 by omega)
  refine va_cald hexec hb w.1 w.2.1 _ t0 (k_fget _ i j B _ hB he) ht (vp_in_nI hq hn) hdg ?_
  rw [h]
  exact kk
theorem r_aald (hexec : p.tables.exec = Jvm.exec) (hb : c.code = cc) (w : kW D tys A H0 s H locs Bs) (i j : Nat) {B : va_W} (hB : Bs[i]? = some B) {cA : ClassId} {ty : FieldType} (hty : ty.isReference = true) {n : Nat} {f : Nat → Option Nat} (he : B[j]? = some (a, .inl (cA, n, .inr (.inr (.inr (.inr f)))))) (t0 : Nat) (ht : tys[t0]? = some (cA, ty)) (q : Nat) (hq : q < n) (hn : n < 2 ^ 31) {x : Int32} {y : Nat} (hx : x = nI q) (hv : f q = some y) (hdg : decode cc pc = .ok (.aaload, 1))
    (kk : W p l e R s m args below meth c H locs cells slots Q (F0 m (pc + 1) ls (.ref y :: rest))) : W p l e R s m args below meth c H locs cells slots Q (F0 m pc ls (.int x :: .ref a :: rest)) := by
  subst hx
  have h := nI_clamp (show q < 2 ^ 31 by omega)
  have hin := vp_in_nI hq hn
  have hlt : (nI q).toNatClampNeg < n := by rw [h]; exact hq
  have hP := w.2.1 _ _ (k_fget _ i j B _ hB he)
  refine W.aald (v := .ref y) (ty := ty) hexec hb hP ((w.1.2 t0 _ ht).1 n (fun j => va_rf (f j))) hty (fun q => by cases q) (by show ¬ (_ < 0 ∨ (arrV _ _ _).slots.size ≤ _); rw [arrV_size]; exact hin) (by show (arrV _ _ _).slots[_]? = _; rw [arrV_read _ _ hlt, h, hv]; rfl) rfl rfl hdg kk
theorem r_iast (hexec : p.tables.exec = Jvm.exec) (hb : c.code = cc) (w : kW D tys A H0 s H locs Bs) (i j : Nat) {B : va_W} (hB : Bs[i]? = some B) {cA : ClassId} {n : Nat} {f : Nat → Int32} (he : B[j]? = some (a, .inl (cA, n, .inl f))) (t0 : Nat) (ht : tys[t0]? = some (cA, .int)) (q : Nat) (hq : q < n) (hn : n < 2 ^ 31) {x v : Int32} (hx : x = nI q) (B' : va_W) (hB' : B.set j (a, .inl (cA, n, .inl (upd f q v))) = B') (Bs' : List va_W) (hBs : Bs.set i B' = Bs') (hdg : decode cc pc = .ok (.iastore, 1))
    (kk : ∀ (H1 : Heap) (locs1 : List Loc), kW D tys A H0 s H1 locs1 Bs' → W p l e R s m args below meth c H1 locs1 cells slots Q (F0 m (pc + 1) ls rest)) : W p l e R s m args below meth c H locs cells slots Q (F0 m pc ls (.int v :: .int x :: .ref a :: rest)) := by
  subst hx
  have h := nI_clamp (show q < 2 ^ 31 by omega)
  refine va_iast hexec hb w.1 w.2.1 w.2.2.1 w.2.2.2.1 _ t0 (k_fget _ i j B _ hB he) ht (vp_in_nI hq hn) hdg (fun H1 locs1 hP hD hS => kk H1 locs1 ?_)
  rw [h, k_fset _ i j B _ hB (List.getElem?_eq_some_iff.mp he).1, hB', hBs] at hP hD
  exact ⟨w.1, hP, hD, hS, w.2.2.2.2⟩
/-- a number on the stack under another name -/
theorem r_eq {x y : Int32} (h : x = y) (kk : W p l e R s m args below meth c H locs cells slots Q (F0 m pc ls (.int y :: rest))) : W p l e R s m args below meth c H locs cells slots Q (F0 m pc ls (.int x :: rest)) := h ▸ kk
/-! branches by numbers -/
theorem b_lt {a b : Nat} (ha : a < 2 ^ 31) (hb : b < 2 ^ 31) : (nI a < nI b) = (a < b) := propext (nI_ltI ha hb)
theorem b_le {a b : Nat} (ha : a < 2 ^ 31) (hb : b < 2 ^ 31) : (nI a ≤ nI b) = (a ≤ b) := propext (nI_leI ha hb)
theorem b_eq {a b : Nat} (ha : a < 2 ^ 31) (hb : b < 2 ^ 31) : (nI a = nI b) = (a = b) := propext (nI_eq ha hb)
end KB1
theorem inc1 (k : Nat) : nI k + Int32.ofInt 1 = nI (k + 1) := nI_1 k
abbrev kR (f lo c s : Nat) : Room := { frames := f, cells := c, slots := s, locals := lo }
section KB3
variable {p : Program} {l : Launch} {e : Env} {R : Room} {s : State} {m : MethodId} {args : Array Value} {below : List Frame} {meth : Method} {c : Code} {H : Heap} {locs : List Loc} {cells slots : Nat} {Q : State → Prop} {pc : Nat} {ls : Array Slot} {st : List Value}
/-- a loop that counts up to N -/
theorem k_loop (P : Nat → Heap → List Loc → Array Slot → Prop) (N k0 : Nat) (h0 : k0 ≤ N) (hP : P k0 H locs ls)
    (hs : ∀ k : Nat, k0 ≤ k → k ≤ N → (∀ (H1 : Heap) (locs1 : List Loc) (ls1 : Array Slot), P (k + 1) H1 locs1 ls1 → k + 1 ≤ N → W p l e R s m args below meth c H1 locs1 cells slots Q (F0 m pc ls1 st)) → ∀ (H1 : Heap) (locs1 : List Loc) (ls1 : Array Slot), P k H1 locs1 ls1 → W p l e R s m args below meth c H1 locs1 cells slots Q (F0 m pc ls1 st)) :
    W p l e R s m args below meth c H locs cells slots Q (F0 m pc ls st) := by
  have key : ∀ (d k : Nat), k0 ≤ k → k + d = N → ∀ (H1 : Heap) (locs1 : List Loc) (ls1 : Array Slot), P k H1 locs1 ls1 → W p l e R s m args below meth c H1 locs1 cells slots Q (F0 m pc ls1 st) := by
    intro d
    induction d with
    | zero => intro k hk0 hk H1 locs1 ls1 h; exact hs k hk0 (by omega) (fun _ _ _ _ h2 => absurd h2 (by omega)) H1 locs1 ls1 h
    | succ d ih => intro k hk0 hk H1 locs1 ls1 h; exact hs k hk0 (by omega) (fun H2 l2 ls2 h2 h3 => ih (k + 1) (by omega) (by omega) H2 l2 ls2 h2) H1 locs1 ls1 h
  exact key (N - k0) k0 (Nat.le_refl _) (by omega) H locs ls hP
end KB3
