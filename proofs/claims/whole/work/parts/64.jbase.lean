/-! ===== the JDK's own constants: compact strings, the digits' tables, two texts ===== -/
def jT1 (j : Nat) : Int32 := nI (48 + j % 10)
def jT2 (j : Nat) : Int32 := nI (48 + j / 10)
def jLen : List Nat := [3, 7]
def jByt : List (List Int32) := [[108, 97, 119], [108, 101, 97, 116, 104, 101, 114]]
def kJ (J : Nat → Nat) (A : Nat → Prop) (U : State) : Prop := va_Z "java/lang/String" "COMPACT_STRINGS" "Z" (.int 1) A U U.heap ∧ (va_Z "java/lang/Integer" "DigitOnes" "[B" (.ref (J 0)) A U U.heap ∧ va_T .byte (J 0) 100 (fun j => .int (jT1 j)) A U U.heap) ∧ (va_Z "java/lang/Integer" "DigitTens" "[B" (.ref (J 1)) A U U.heap ∧ va_T .byte (J 1) 100 (fun j => .int (jT2 j)) A U U.heap) ∧ vk_S 2 jLen jByt (fun i => J (2 + i)) (fun i => J (4 + i)) A U U.heap ∧ (vk_R RX3 56 "law" (J 2) U ∧ vk_R RX3 61 "leather" (J 3) U) ∧ va_Zq "jdk/internal/util/Preconditions" "SIOOBE_FORMATTER" "Ljava/util/function/BiFunction;" A U U.heap
theorem kJ.down {J : Nat → Nat} {A B : Nat → Prop} {s U : State} {H : Heap} {locs : List Loc} (h : kJ J A s) (hS : va_S A s.heap H locs) (hU : U.heap = H) (hW : s.WarmedH U.vm) (hAB : ∀ q, B q → A q) : kJ J B U := by
  obtain ⟨h1, ⟨h2, h3⟩, ⟨h4, h5⟩, h6, ⟨h7, h8⟩, h9⟩ := h
  subst hU
  exact ⟨((h1.kept hS.2.1).narrow hAB).moved hW.alike, ⟨((h2.kept hS.2.1).narrow hAB).moved hW.alike, ((h3.kept hS.2.1).narrow hAB).moved hW.alike⟩, ⟨((h4.kept hS.2.1).narrow hAB).moved hW.alike, ((h5.kept hS.2.1).narrow hAB).moved hW.alike⟩, ((h6.kept hS.2.1).narrow hAB).moved hW.alike, ⟨h7.warm hW, h8.warm hW⟩, ((h9.kept hS.2.1).narrow hAB).moved hW.alike⟩
def kPreJ (J : Nat → Nat) (D : va_G) (tys : List (ClassId × FieldType)) (as : List Value) (Bs : List va_W) (sz : Nat) : Array Value → State → Prop :=
  va_Pc as (fun U => U.heap.size = sz ∧ va_P D vwCl Bs.flatten U.heap ∧ va_K D vwCl tys U ∧ va_D (fun _ => True) Bs.flatten ∧ kN U ∧ kJ J (va_A Bs.flatten sz) U)
theorem kJ.same {J : Nat → Nat} {A : Nat → Prop} {u U : State} (hv : U.vm = u.vm) (hh : U.heap = u.heap) (h : kJ J A u) : kJ J A U := by
  obtain ⟨h1, ⟨h2, h3⟩, ⟨h4, h5⟩, h6, ⟨h7, h8⟩, h9⟩ := h
  have ha : u.vm.Alike U.vm := by rw [hv]; exact Vm.Alike.refl u.vm
  unfold kJ
  rw [hh]
  exact ⟨h1.moved ha, ⟨h2.moved ha, h3.moved ha⟩, ⟨h4.moved ha, h5.moved ha⟩, h6.moved ha, ⟨h7.same hv, h8.same hv⟩, h9.moved ha⟩
theorem kPreJ_blind {J : Nat → Nat} {D : va_G} {tys : List (ClassId × FieldType)} {as : List Value} {Bs : List va_W} {sz : Nat} : FrameBlind (kPreJ J D tys as Bs sz) := fun a U g mk q => by
  obtain ⟨q0, q1, qP, qK, qD, qN, qJ⟩ := q
  exact ⟨q0, q1, qP, va_K.moved (u := U) (U := U.calling g mk a) (Vm.Alike.refl U.vm) qK, qD, qN.same rfl, qJ.same rfl rfl⟩
def Ji (J : Nat → Nat) (l : Launch) (y : MethodName) (ws : List Cond) (rm : Room) (D : va_G) (tys : List (ClassId × FieldType)) (as : List Value) (Bs Bs' : List va_W) (r : Int32) (mc ms : Nat) : Prop :=
  ∀ sz : Nat, Met l y ws rm (kPreJ J D tys as Bs sz) (va_Qi (fun (x : Int32) (_ : Unit) => x = r) (fun _ t => kQ D tys (va_A Bs.flatten sz) Bs' t) (va_A Bs.flatten sz)) mc ms (va_A Bs.flatten sz)
def Jv (J : Nat → Nat) (l : Launch) (y : MethodName) (ws : List Cond) (rm : Room) (D : va_G) (tys : List (ClassId × FieldType)) (as : List Value) (Bs Bs' : List va_W) (mc ms : Nat) : Prop :=
  ∀ sz : Nat, Met l y ws rm (kPreJ J D tys as Bs sz) (va_Qv (fun (_ : Unit) => True) (fun _ t => kQ D tys (va_A Bs.flatten sz) Bs' t) (va_A Bs.flatten sz)) mc ms (va_A Bs.flatten sz)
def Jr (J : Nat → Nat) (l : Launch) (y : MethodName) (ws : List Cond) (rm : Room) (D : va_G) (tys : List (ClassId × FieldType)) (as : List Value) (Bs Bs' : List va_W) (r : Nat) (mc ms : Nat) : Prop :=
  ∀ sz : Nat, Met l y ws rm (kPreJ J D tys as Bs sz) (va_Qr (fun (_ : Unit) => True) (fun _ a t => a = r ∧ kQ D tys (va_A Bs.flatten sz) Bs' t) (va_A Bs.flatten sz)) mc ms (va_A Bs.flatten sz)
theorem m_ji {J : Nat → Nat} {l : Launch} {y : MethodName} {ws ws' : List Cond} {rm : Room} {D : va_G} {tys : List (ClassId × FieldType)} {as : List Value} {Bs Bs' : List va_W} {r : Int32} {mc ms maxL : Nat} {cc : ByteArray} {ret : Option FieldType} (hy : plainName y.cls = true) (hw : ws = Cond.code y cc maxL ret :: ws') (hmx : (lg_sl as).length ≤ maxL)
    (body : ∀ (p : Program) (e : Env) (s : State) (m : MethodId) (below : List Frame) (meth : Method) (c : Code) (A : Nat → Prop) (ls : Array Slot), p.tables.exec = Jvm.exec → c.code = cc → c.maxLocals = maxL → meth.sig.returnType = ret → meth.locks = false → s.vm.findClass y.cls = some m.cls → (∀ w ∈ ws, w.before as.toArray s = true) → kJ J A s → kW D tys A s.heap s s.heap [] Bs → lv_has ls maxL (lv_args 0 as) →
      W p l e rm s m as.toArray below meth c s.heap [] 0 0 (MQ below (va_Qi (fun (x : Int32) (_ : Unit) => x = r) (fun _ t => kQ D tys A Bs' t) A) as.toArray s mc ms A) (F0 m 0 ls [])) : Ji J l y ws rm D tys as Bs Bs' r mc ms := by
  intro sz
  refine Met.ofW (cc := cc) (maxL := maxL) (ret := ret) hy hw ?_
  intro p e s m args below meth c s₁ B hml hv
  obtain ⟨rfl, hsz, hP, hK, hD0, hN, hJ⟩ := hv
  subst hsz
  rw [lg_entry_eq]
  exact body p e s m below meth c _ _ B.exec B.bytes hml B.returns B.notSynchronized (findClass_of_methodNamed B.named) (atoms_spec (ws := ws) B.pre) hJ ⟨hK, hP, hD0.self, va_S.rf, fun q h => Or.inr h, hN⟩ (lv_entry as hmx)
theorem m_jv {J : Nat → Nat} {l : Launch} {y : MethodName} {ws ws' : List Cond} {rm : Room} {D : va_G} {tys : List (ClassId × FieldType)} {as : List Value} {Bs Bs' : List va_W}  {mc ms maxL : Nat} {cc : ByteArray} {ret : Option FieldType} (hy : plainName y.cls = true) (hw : ws = Cond.code y cc maxL ret :: ws') (hmx : (lg_sl as).length ≤ maxL)
    (body : ∀ (p : Program) (e : Env) (s : State) (m : MethodId) (below : List Frame) (meth : Method) (c : Code) (A : Nat → Prop) (ls : Array Slot), p.tables.exec = Jvm.exec → c.code = cc → c.maxLocals = maxL → meth.sig.returnType = ret → meth.locks = false → s.vm.findClass y.cls = some m.cls → (∀ w ∈ ws, w.before as.toArray s = true) → kJ J A s → kW D tys A s.heap s s.heap [] Bs → lv_has ls maxL (lv_args 0 as) →
      W p l e rm s m as.toArray below meth c s.heap [] 0 0 (MQ below (va_Qv (fun (_ : Unit) => True) (fun _ t => kQ D tys A Bs' t) A) as.toArray s mc ms A) (F0 m 0 ls [])) : Jv J l y ws rm D tys as Bs Bs' mc ms := by
  intro sz
  refine Met.ofW (cc := cc) (maxL := maxL) (ret := ret) hy hw ?_
  intro p e s m args below meth c s₁ B hml hv
  obtain ⟨rfl, hsz, hP, hK, hD0, hN, hJ⟩ := hv
  subst hsz
  rw [lg_entry_eq]
  exact body p e s m below meth c _ _ B.exec B.bytes hml B.returns B.notSynchronized (findClass_of_methodNamed B.named) (atoms_spec (ws := ws) B.pre) hJ ⟨hK, hP, hD0.self, va_S.rf, fun q h => Or.inr h, hN⟩ (lv_entry as hmx)
theorem m_jr {J : Nat → Nat} {l : Launch} {y : MethodName} {ws ws' : List Cond} {rm : Room} {D : va_G} {tys : List (ClassId × FieldType)} {as : List Value} {Bs Bs' : List va_W} {r : Nat} {mc ms maxL : Nat} {cc : ByteArray} {ret : Option FieldType} (hy : plainName y.cls = true) (hw : ws = Cond.code y cc maxL ret :: ws') (hmx : (lg_sl as).length ≤ maxL)
    (body : ∀ (p : Program) (e : Env) (s : State) (m : MethodId) (below : List Frame) (meth : Method) (c : Code) (A : Nat → Prop) (ls : Array Slot), p.tables.exec = Jvm.exec → c.code = cc → c.maxLocals = maxL → meth.sig.returnType = ret → meth.locks = false → s.vm.findClass y.cls = some m.cls → (∀ w ∈ ws, w.before as.toArray s = true) → kJ J A s → kW D tys A s.heap s s.heap [] Bs → lv_has ls maxL (lv_args 0 as) →
      W p l e rm s m as.toArray below meth c s.heap [] 0 0 (MQ below (va_Qr (fun (_ : Unit) => True) (fun _ a t => a = r ∧ kQ D tys A Bs' t) A) as.toArray s mc ms A) (F0 m 0 ls [])) : Jr J l y ws rm D tys as Bs Bs' r mc ms := by
  intro sz
  refine Met.ofW (cc := cc) (maxL := maxL) (ret := ret) hy hw ?_
  intro p e s m args below meth c s₁ B hml hv
  obtain ⟨rfl, hsz, hP, hK, hD0, hN, hJ⟩ := hv
  subst hsz
  rw [lg_entry_eq]
  exact body p e s m below meth c _ _ B.exec B.bytes hml B.returns B.notSynchronized (findClass_of_methodNamed B.named) (atoms_spec (ws := ws) B.pre) hJ ⟨hK, hP, hD0.self, va_S.rf, fun q h => Or.inr h, hN⟩ (lv_entry as hmx)
section KBJ
variable {p : Program} {l : Launch} {e : Env} {R : Room} {s : State} {m : MethodId} {args : Array Value} {below : List Frame} {meth : Method} {c : Code} {H : Heap} {locs : List Loc} {cells slots : Nat} {Q : State → Prop}
variable {J : Nat → Nat} {cc : ByteArray} {pc : Nat} {ls : Array Slot} {rest st : List Value} {D : va_G} {A : Nat → Prop} {a : Nat} {tys : List (ClassId × FieldType)} {Bs : List va_W} {H0 : Heap}
variable {y : MethodName} {bytes : ByteArray} {maxL nL mc ms n index : Nat} {ret : Option FieldType} {wsy Ts : List Cond} {rm : Room} {own C : String} {b : Nat} {As : List Value} {Cs Cs' Rs Bs' : List va_W} 
theorem e_r {r : Nat} {nm : String} (hexec : p.tables.exec = Jvm.exec) (hb : c.code = cc) (hr : meth.sig.returnType = some (.object nm)) (hlocks : meth.locks = false) (w : kW D tys A s.heap s H locs Bs') (hdg : decode cc pc = .ok (.areturn, 1)) (hc : cells ≤ mc) (hs : slots ≤ ms) :
    W p l e R s m args below meth c H locs cells slots (MQ below (va_Qr (fun (_ : Unit) => True) (fun _ a t => a = r ∧ kQ D tys A Bs' t) A) args s mc ms A) (F0 m pc ls [.ref r]) := by
  refine W.widen hc hs ?_
  exact W.aret (v := .ref r) hexec hb hr (Or.inl ⟨_, rfl⟩) (Or.inr ⟨_, rfl⟩) (fun t ht hW => ⟨⟨(), r, rfl, trivial, rfl, ⟨by rw [ht]; exact w.2.1, va_K.moved hW.alike w.1, w.2.2.1⟩⟩, w.2.2.2.1.F ht⟩) w.2.2.2.1.2.2 hdg hlocks
theorem j_recv (h : va_O C b A s s.heap) (w : kW D tys A s.heap s H locs Bs) : ∃ cell : Cell, H[b]? = some cell ∧ cell.vm.isStatics = false ∧ s.vm.findClass C = some cell.cls := by
  obtain ⟨cell, h1, h2, h3, -⟩ := h.kept w.2.2.2.1.2.1
  exact ⟨cell, h1, h2, h3⟩
theorem k_preJ {U : State} (hU : U.heap = H) (hW : s.WarmedH U.vm) (hK : va_K D vwCl tys s) (hP : va_P D vwCl Cs.flatten H) (hD : va_D (fun _ => True) Cs.flatten) (hN : kN s) (hj : kJ J A s) (hS : va_S A s.heap H locs) (hF : ∀ q, va_A Cs.flatten H.size q → A q) : kPreJ J D tys As Cs H.size As.toArray U :=
  ⟨rfl, by rw [hU], by rw [hU]; exact hP, va_K.moved hW.alike hK, hD, hN.warm hW, hj.down hS hU hW hF⟩
theorem j_iV (S : CallFix p m c cc nL s args Ts own) {r : Int32} (hj : kJ J A s) (w : kW D tys A s.heap s H locs Bs) (hM : Ji J l y wsy rm D tys (.ref b :: As) Cs Cs' r mc ms) (cw : CallW R s args own C index y bytes maxL ret wsy rm mc ms n) (is : List Nat) {nB : Nat} (hp : is.Perm (List.range nB)) (hlen0 : Bs.length = nB) (hlen : Bs'.length = nB) (he : is.filterMap (fun i => Bs[i]?) = Cs ++ Rs) (he' : is.filterMap (fun i => Bs'[i]?) = Cs' ++ Rs)
    {B0 : va_W} {ci : Nat} {fs : List Value} {q : vw_C} (i0 : Nat) (hB : Bs[i0]? = some B0) (hx : B0[0]? = some (b, .inr (ci, fs))) (hc : vwCl[ci]? = some q) (hq : q.1 = C)
    (hn : As.length = n) (hsize : ls.size = nL) (hst : st = As.reverse ++ .ref b :: rest) (hcat : (rest.map fun v => v.category).sum ≤ 8) (hdg : decode cc pc = .ok (.invokevirtual index, 3)) (hf : cells + mc ≤ R.cells ∧ slots + ms ≤ R.slots)
    (kk : ∀ (H1 : Heap) (locs1 : List Loc), kW D tys A s.heap s H1 locs1 Bs' → W p l e R s m args below meth c H1 locs1 (cells + mc) (slots + ms) Q (F0 m (pc + 3) ls (.int r :: rest))) : W p l e R s m args below meth c H locs cells slots Q (F0 m pc ls st) := by
  obtain ⟨hP1, hD1, hPc, hDc, hFc⟩ := k_split w (by rw [hlen0]; exact hp) he
  refine va_calli (va_runV (As := As) (rest := rest) S (hM H.size) cw ⟨kPreJ_blind, k_recv w i0 hB hx hc hq, fun U hU hW => k_preJ hU hW w.1 hPc hDc w.2.2.2.2.2 hj w.2.2.2.1 hFc⟩ rfl hn hsize hst (lv_room hcat) hdg hf) w.2.2.2.1 (fun q _ h => hFc q h) hFc (fun r1 u t H1 locs1 ht hvm hw hB1 hz1 hk1 hS1 => ?_)
  obtain ⟨hP2, hK2, hD2⟩ := hB1
  rw [ht] at hP2
  rw [show r1 = r from hw]
  obtain ⟨hP3, hD3⟩ := k_join hP1 hD1 hk1 hFc hP2 hD2
  exact kk H1 locs1 (k_back w (by rw [hlen0]; exact hp) (hlen.trans hlen0.symm) he' hP3 hD3 hS1)
theorem j_iU (S : CallFix p m c cc nL s args Ts own) {r : Int32} (hj : kJ J A s) (w : kW D tys A s.heap s H locs Bs) (hM : Ji J l y wsy rm D tys (.ref b :: As) Cs Cs' r mc ms) {owner : String} {x : MethodName} (cw : va_CU R s args own C owner index x y bytes maxL ret wsy rm mc ms n) (is : List Nat) {nB : Nat} (hp : is.Perm (List.range nB)) (hlen0 : Bs.length = nB) (hlen : Bs'.length = nB) (he : is.filterMap (fun i => Bs[i]?) = Cs ++ Rs) (he' : is.filterMap (fun i => Bs'[i]?) = Cs' ++ Rs)
    {B0 : va_W} {ci : Nat} {fs : List Value} {q : vw_C} (i0 : Nat) (hB : Bs[i0]? = some B0) (hx : B0[0]? = some (b, .inr (ci, fs))) (hc : vwCl[ci]? = some q) (hq : q.1 = C)
    (hn : As.length = n) (hsize : ls.size = nL) (hst : st = As.reverse ++ .ref b :: rest) (hcat : (rest.map fun v => v.category).sum ≤ 8) (hdg : decode cc pc = .ok (.invokevirtual index, 3)) (hf : cells + mc ≤ R.cells ∧ slots + ms ≤ R.slots)
    (kk : ∀ (H1 : Heap) (locs1 : List Loc), kW D tys A s.heap s H1 locs1 Bs' → W p l e R s m args below meth c H1 locs1 (cells + mc) (slots + ms) Q (F0 m (pc + 3) ls (.int r :: rest))) : W p l e R s m args below meth c H locs cells slots Q (F0 m pc ls st) := by
  obtain ⟨hP1, hD1, hPc, hDc, hFc⟩ := k_split w (by rw [hlen0]; exact hp) he
  refine va_calli (va_runU (As := As) (rest := rest) S (hM H.size) cw ⟨kPreJ_blind, k_recv w i0 hB hx hc hq, fun U hU hW => k_preJ hU hW w.1 hPc hDc w.2.2.2.2.2 hj w.2.2.2.1 hFc⟩ rfl hn hsize hst (lv_room hcat) hdg hf) w.2.2.2.1 (fun q _ h => hFc q h) hFc (fun r1 u t H1 locs1 ht hvm hw hB1 hz1 hk1 hS1 => ?_)
  obtain ⟨hP2, hK2, hD2⟩ := hB1
  rw [ht] at hP2
  rw [show r1 = r from hw]
  obtain ⟨hP3, hD3⟩ := k_join hP1 hD1 hk1 hFc hP2 hD2
  exact kk H1 locs1 (k_back w (by rw [hlen0]; exact hp) (hlen.trans hlen0.symm) he' hP3 hD3 hS1)
theorem j_iSU (S : CallFix p m c cc nL s args Ts own) {r : Int32} (hj : kJ J A s) (w : kW D tys A s.heap s H locs Bs) (hM : Ji J l y wsy rm D tys (.ref b :: As) Cs Cs' r mc ms) (cw : va_CS R s args own index y bytes maxL ret wsy rm mc ms n) (is : List Nat) {nB : Nat} (hp : is.Perm (List.range nB)) (hlen0 : Bs.length = nB) (hlen : Bs'.length = nB) (he : is.filterMap (fun i => Bs[i]?) = Cs ++ Rs) (he' : is.filterMap (fun i => Bs'[i]?) = Cs' ++ Rs)
    {B0 : va_W} {ci : Nat} {fs : List Value} {q : vw_C} (i0 : Nat) (hB : Bs[i0]? = some B0) (hx : B0[0]? = some (b, .inr (ci, fs))) (hc : vwCl[ci]? = some q) (hq : q.1 = C)
    (hn : As.length = n) (hsize : ls.size = nL) (hst : st = As.reverse ++ .ref b :: rest) (hcat : (rest.map fun v => v.category).sum ≤ 8) (hdg : decode cc pc = .ok (.invokespecial index, 3)) (hf : cells + mc ≤ R.cells ∧ slots + ms ≤ R.slots)
    (kk : ∀ (H1 : Heap) (locs1 : List Loc), kW D tys A s.heap s H1 locs1 Bs' → W p l e R s m args below meth c H1 locs1 (cells + mc) (slots + ms) Q (F0 m (pc + 3) ls (.int r :: rest))) : W p l e R s m args below meth c H locs cells slots Q (F0 m pc ls st) := by
  obtain ⟨hP1, hD1, hPc, hDc, hFc⟩ := k_split w (by rw [hlen0]; exact hp) he
  refine va_calli (va_runSU (C := C) (As := As) (rest := rest) (by rw [← hq]; exact (w.1.1 ci q hc).2) S (hM H.size) cw ⟨kPreJ_blind, k_recv w i0 hB hx hc hq, fun U hU hW => k_preJ hU hW w.1 hPc hDc w.2.2.2.2.2 hj w.2.2.2.1 hFc⟩ rfl hn hsize hst (lv_room hcat) hdg hf) w.2.2.2.1 (fun q _ h => hFc q h) hFc (fun r1 u t H1 locs1 ht hvm hw hB1 hz1 hk1 hS1 => ?_)
  obtain ⟨hP2, hK2, hD2⟩ := hB1
  rw [ht] at hP2
  rw [show r1 = r from hw]
  obtain ⟨hP3, hD3⟩ := k_join hP1 hD1 hk1 hFc hP2 hD2
  exact kk H1 locs1 (k_back w (by rw [hlen0]; exact hp) (hlen.trans hlen0.symm) he' hP3 hD3 hS1)
theorem j_iS (S : CallFix p m c cc nL s args Ts own) {r : Int32} (hj : kJ J A s) (w : kW D tys A s.heap s H locs Bs) (hM : Ji J l y wsy rm D tys As Cs Cs' r mc ms) (cw : CallB R s args own index y bytes maxL ret wsy rm mc ms n ∧ (Cond.static y).before args s = true) (is : List Nat) {nB : Nat} (hp : is.Perm (List.range nB)) (hlen0 : Bs.length = nB) (hlen : Bs'.length = nB) (he : is.filterMap (fun i => Bs[i]?) = Cs ++ Rs) (he' : is.filterMap (fun i => Bs'[i]?) = Cs' ++ Rs)
    (hn : As.length = n) (hsize : ls.size = nL) (hst : st = As.reverse ++ rest) (hcat : (rest.map fun v => v.category).sum ≤ 8) (hdg : decode cc pc = .ok (.invokestatic index, 3)) (hf : cells + mc ≤ R.cells ∧ slots + ms ≤ R.slots)
    (kk : ∀ (H1 : Heap) (locs1 : List Loc), kW D tys A s.heap s H1 locs1 Bs' → W p l e R s m args below meth c H1 locs1 (cells + mc) (slots + ms) Q (F0 m (pc + 3) ls (.int r :: rest))) : W p l e R s m args below meth c H locs cells slots Q (F0 m pc ls st) := by
  obtain ⟨hP1, hD1, hPc, hDc, hFc⟩ := k_split w (by rw [hlen0]; exact hp) he
  refine va_calli (va_runS (As := As) (rest := rest) S (hM H.size) cw ⟨kPreJ_blind, fun U hU hW => k_preJ hU hW w.1 hPc hDc w.2.2.2.2.2 hj w.2.2.2.1 hFc⟩ rfl hn hsize hst (lv_room hcat) hdg hf) w.2.2.2.1 (fun q _ h => hFc q h) hFc (fun r1 u t H1 locs1 ht hvm hw hB1 hz1 hk1 hS1 => ?_)
  obtain ⟨hP2, hK2, hD2⟩ := hB1
  rw [ht] at hP2
  rw [show r1 = r from hw]
  obtain ⟨hP3, hD3⟩ := k_join hP1 hD1 hk1 hFc hP2 hD2
  exact kk H1 locs1 (k_back w (by rw [hlen0]; exact hp) (hlen.trans hlen0.symm) he' hP3 hD3 hS1)
theorem j_vV (S : CallFix p m c cc nL s args Ts own) (hj : kJ J A s) (w : kW D tys A s.heap s H locs Bs) (hM : Jv J l y wsy rm D tys (.ref b :: As) Cs Cs' mc ms) (cw : CallW R s args own C index y bytes maxL ret wsy rm mc ms n) (is : List Nat) {nB : Nat} (hp : is.Perm (List.range nB)) (hlen0 : Bs.length = nB) (hlen : Bs'.length = nB) (he : is.filterMap (fun i => Bs[i]?) = Cs ++ Rs) (he' : is.filterMap (fun i => Bs'[i]?) = Cs' ++ Rs)
    {B0 : va_W} {ci : Nat} {fs : List Value} {q : vw_C} (i0 : Nat) (hB : Bs[i0]? = some B0) (hx : B0[0]? = some (b, .inr (ci, fs))) (hc : vwCl[ci]? = some q) (hq : q.1 = C)
    (hn : As.length = n) (hsize : ls.size = nL) (hst : st = As.reverse ++ .ref b :: rest) (hcat : (rest.map fun v => v.category).sum ≤ 8) (hdg : decode cc pc = .ok (.invokevirtual index, 3)) (hf : cells + mc ≤ R.cells ∧ slots + ms ≤ R.slots)
    (kk : ∀ (H1 : Heap) (locs1 : List Loc), kW D tys A s.heap s H1 locs1 Bs' → W p l e R s m args below meth c H1 locs1 (cells + mc) (slots + ms) Q (F0 m (pc + 3) ls rest)) : W p l e R s m args below meth c H locs cells slots Q (F0 m pc ls st) := by
  obtain ⟨hP1, hD1, hPc, hDc, hFc⟩ := k_split w (by rw [hlen0]; exact hp) he
  refine va_callv (va_runV (As := As) (rest := rest) S (hM H.size) cw ⟨kPreJ_blind, k_recv w i0 hB hx hc hq, fun U hU hW => k_preJ hU hW w.1 hPc hDc w.2.2.2.2.2 hj w.2.2.2.1 hFc⟩ rfl hn hsize hst (lv_room hcat) hdg hf) w.2.2.2.1 (fun q _ h => hFc q h) hFc (fun u t H1 locs1 ht hvm hw hB1 hz1 hk1 hS1 => ?_)
  obtain ⟨hP2, hK2, hD2⟩ := hB1
  rw [ht] at hP2
  obtain ⟨hP3, hD3⟩ := k_join hP1 hD1 hk1 hFc hP2 hD2
  exact kk H1 locs1 (k_back w (by rw [hlen0]; exact hp) (hlen.trans hlen0.symm) he' hP3 hD3 hS1)
theorem j_vU (S : CallFix p m c cc nL s args Ts own) (hj : kJ J A s) (w : kW D tys A s.heap s H locs Bs) (hM : Jv J l y wsy rm D tys (.ref b :: As) Cs Cs' mc ms) {owner : String} {x : MethodName} (cw : va_CU R s args own C owner index x y bytes maxL ret wsy rm mc ms n) (is : List Nat) {nB : Nat} (hp : is.Perm (List.range nB)) (hlen0 : Bs.length = nB) (hlen : Bs'.length = nB) (he : is.filterMap (fun i => Bs[i]?) = Cs ++ Rs) (he' : is.filterMap (fun i => Bs'[i]?) = Cs' ++ Rs)
    {B0 : va_W} {ci : Nat} {fs : List Value} {q : vw_C} (i0 : Nat) (hB : Bs[i0]? = some B0) (hx : B0[0]? = some (b, .inr (ci, fs))) (hc : vwCl[ci]? = some q) (hq : q.1 = C)
    (hn : As.length = n) (hsize : ls.size = nL) (hst : st = As.reverse ++ .ref b :: rest) (hcat : (rest.map fun v => v.category).sum ≤ 8) (hdg : decode cc pc = .ok (.invokevirtual index, 3)) (hf : cells + mc ≤ R.cells ∧ slots + ms ≤ R.slots)
    (kk : ∀ (H1 : Heap) (locs1 : List Loc), kW D tys A s.heap s H1 locs1 Bs' → W p l e R s m args below meth c H1 locs1 (cells + mc) (slots + ms) Q (F0 m (pc + 3) ls rest)) : W p l e R s m args below meth c H locs cells slots Q (F0 m pc ls st) := by
  obtain ⟨hP1, hD1, hPc, hDc, hFc⟩ := k_split w (by rw [hlen0]; exact hp) he
  refine va_callv (va_runU (As := As) (rest := rest) S (hM H.size) cw ⟨kPreJ_blind, k_recv w i0 hB hx hc hq, fun U hU hW => k_preJ hU hW w.1 hPc hDc w.2.2.2.2.2 hj w.2.2.2.1 hFc⟩ rfl hn hsize hst (lv_room hcat) hdg hf) w.2.2.2.1 (fun q _ h => hFc q h) hFc (fun u t H1 locs1 ht hvm hw hB1 hz1 hk1 hS1 => ?_)
  obtain ⟨hP2, hK2, hD2⟩ := hB1
  rw [ht] at hP2
  obtain ⟨hP3, hD3⟩ := k_join hP1 hD1 hk1 hFc hP2 hD2
  exact kk H1 locs1 (k_back w (by rw [hlen0]; exact hp) (hlen.trans hlen0.symm) he' hP3 hD3 hS1)
theorem j_vSU (S : CallFix p m c cc nL s args Ts own) (hj : kJ J A s) (w : kW D tys A s.heap s H locs Bs) (hM : Jv J l y wsy rm D tys (.ref b :: As) Cs Cs' mc ms) (cw : va_CS R s args own index y bytes maxL ret wsy rm mc ms n) (is : List Nat) {nB : Nat} (hp : is.Perm (List.range nB)) (hlen0 : Bs.length = nB) (hlen : Bs'.length = nB) (he : is.filterMap (fun i => Bs[i]?) = Cs ++ Rs) (he' : is.filterMap (fun i => Bs'[i]?) = Cs' ++ Rs)
    {B0 : va_W} {ci : Nat} {fs : List Value} {q : vw_C} (i0 : Nat) (hB : Bs[i0]? = some B0) (hx : B0[0]? = some (b, .inr (ci, fs))) (hc : vwCl[ci]? = some q) (hq : q.1 = C)
    (hn : As.length = n) (hsize : ls.size = nL) (hst : st = As.reverse ++ .ref b :: rest) (hcat : (rest.map fun v => v.category).sum ≤ 8) (hdg : decode cc pc = .ok (.invokespecial index, 3)) (hf : cells + mc ≤ R.cells ∧ slots + ms ≤ R.slots)
    (kk : ∀ (H1 : Heap) (locs1 : List Loc), kW D tys A s.heap s H1 locs1 Bs' → W p l e R s m args below meth c H1 locs1 (cells + mc) (slots + ms) Q (F0 m (pc + 3) ls rest)) : W p l e R s m args below meth c H locs cells slots Q (F0 m pc ls st) := by
  obtain ⟨hP1, hD1, hPc, hDc, hFc⟩ := k_split w (by rw [hlen0]; exact hp) he
  refine va_callv (va_runSU (C := C) (As := As) (rest := rest) (by rw [← hq]; exact (w.1.1 ci q hc).2) S (hM H.size) cw ⟨kPreJ_blind, k_recv w i0 hB hx hc hq, fun U hU hW => k_preJ hU hW w.1 hPc hDc w.2.2.2.2.2 hj w.2.2.2.1 hFc⟩ rfl hn hsize hst (lv_room hcat) hdg hf) w.2.2.2.1 (fun q _ h => hFc q h) hFc (fun u t H1 locs1 ht hvm hw hB1 hz1 hk1 hS1 => ?_)
  obtain ⟨hP2, hK2, hD2⟩ := hB1
  rw [ht] at hP2
  obtain ⟨hP3, hD3⟩ := k_join hP1 hD1 hk1 hFc hP2 hD2
  exact kk H1 locs1 (k_back w (by rw [hlen0]; exact hp) (hlen.trans hlen0.symm) he' hP3 hD3 hS1)
theorem j_vS (S : CallFix p m c cc nL s args Ts own) (hj : kJ J A s) (w : kW D tys A s.heap s H locs Bs) (hM : Jv J l y wsy rm D tys As Cs Cs' mc ms) (cw : CallB R s args own index y bytes maxL ret wsy rm mc ms n ∧ (Cond.static y).before args s = true) (is : List Nat) {nB : Nat} (hp : is.Perm (List.range nB)) (hlen0 : Bs.length = nB) (hlen : Bs'.length = nB) (he : is.filterMap (fun i => Bs[i]?) = Cs ++ Rs) (he' : is.filterMap (fun i => Bs'[i]?) = Cs' ++ Rs)
    (hn : As.length = n) (hsize : ls.size = nL) (hst : st = As.reverse ++ rest) (hcat : (rest.map fun v => v.category).sum ≤ 8) (hdg : decode cc pc = .ok (.invokestatic index, 3)) (hf : cells + mc ≤ R.cells ∧ slots + ms ≤ R.slots)
    (kk : ∀ (H1 : Heap) (locs1 : List Loc), kW D tys A s.heap s H1 locs1 Bs' → W p l e R s m args below meth c H1 locs1 (cells + mc) (slots + ms) Q (F0 m (pc + 3) ls rest)) : W p l e R s m args below meth c H locs cells slots Q (F0 m pc ls st) := by
  obtain ⟨hP1, hD1, hPc, hDc, hFc⟩ := k_split w (by rw [hlen0]; exact hp) he
  refine va_callv (va_runS (As := As) (rest := rest) S (hM H.size) cw ⟨kPreJ_blind, fun U hU hW => k_preJ hU hW w.1 hPc hDc w.2.2.2.2.2 hj w.2.2.2.1 hFc⟩ rfl hn hsize hst (lv_room hcat) hdg hf) w.2.2.2.1 (fun q _ h => hFc q h) hFc (fun u t H1 locs1 ht hvm hw hB1 hz1 hk1 hS1 => ?_)
  obtain ⟨hP2, hK2, hD2⟩ := hB1
  rw [ht] at hP2
  obtain ⟨hP3, hD3⟩ := k_join hP1 hD1 hk1 hFc hP2 hD2
  exact kk H1 locs1 (k_back w (by rw [hlen0]; exact hp) (hlen.trans hlen0.symm) he' hP3 hD3 hS1)
theorem j_rV (S : CallFix p m c cc nL s args Ts own) {r : Nat} (hj : kJ J A s) (w : kW D tys A s.heap s H locs Bs) (hM : Jr J l y wsy rm D tys (.ref b :: As) Cs Cs' r mc ms) (cw : CallW R s args own C index y bytes maxL ret wsy rm mc ms n) (is : List Nat) {nB : Nat} (hp : is.Perm (List.range nB)) (hlen0 : Bs.length = nB) (hlen : Bs'.length = nB) (he : is.filterMap (fun i => Bs[i]?) = Cs ++ Rs) (he' : is.filterMap (fun i => Bs'[i]?) = Cs' ++ Rs)
    {B0 : va_W} {ci : Nat} {fs : List Value} {q : vw_C} (i0 : Nat) (hB : Bs[i0]? = some B0) (hx : B0[0]? = some (b, .inr (ci, fs))) (hc : vwCl[ci]? = some q) (hq : q.1 = C)
    (hn : As.length = n) (hsize : ls.size = nL) (hst : st = As.reverse ++ .ref b :: rest) (hcat : (rest.map fun v => v.category).sum ≤ 8) (hdg : decode cc pc = .ok (.invokevirtual index, 3)) (hf : cells + mc ≤ R.cells ∧ slots + ms ≤ R.slots)
    (kk : ∀ (H1 : Heap) (locs1 : List Loc), kW D tys A s.heap s H1 locs1 Bs' → W p l e R s m args below meth c H1 locs1 (cells + mc) (slots + ms) Q (F0 m (pc + 3) ls (.ref r :: rest))) : W p l e R s m args below meth c H locs cells slots Q (F0 m pc ls st) := by
  obtain ⟨hP1, hD1, hPc, hDc, hFc⟩ := k_split w (by rw [hlen0]; exact hp) he
  refine va_callr (va_runV (As := As) (rest := rest) S (hM H.size) cw ⟨kPreJ_blind, k_recv w i0 hB hx hc hq, fun U hU hW => k_preJ hU hW w.1 hPc hDc w.2.2.2.2.2 hj w.2.2.2.1 hFc⟩ rfl hn hsize hst (lv_room hcat) hdg hf) w.2.2.2.1 (fun q _ h => hFc q h) hFc (fun u r1 t H1 locs1 ht hvm hw hB1 hz1 hk1 hS1 => ?_)
  obtain ⟨rfl, hP2, hK2, hD2⟩ := hB1
  rw [ht] at hP2
  obtain ⟨hP3, hD3⟩ := k_join hP1 hD1 hk1 hFc hP2 hD2
  exact kk H1 locs1 (k_back w (by rw [hlen0]; exact hp) (hlen.trans hlen0.symm) he' hP3 hD3 hS1)
theorem j_rU (S : CallFix p m c cc nL s args Ts own) {r : Nat} (hj : kJ J A s) (w : kW D tys A s.heap s H locs Bs) (hM : Jr J l y wsy rm D tys (.ref b :: As) Cs Cs' r mc ms) {owner : String} {x : MethodName} (cw : va_CU R s args own C owner index x y bytes maxL ret wsy rm mc ms n) (is : List Nat) {nB : Nat} (hp : is.Perm (List.range nB)) (hlen0 : Bs.length = nB) (hlen : Bs'.length = nB) (he : is.filterMap (fun i => Bs[i]?) = Cs ++ Rs) (he' : is.filterMap (fun i => Bs'[i]?) = Cs' ++ Rs)
    {B0 : va_W} {ci : Nat} {fs : List Value} {q : vw_C} (i0 : Nat) (hB : Bs[i0]? = some B0) (hx : B0[0]? = some (b, .inr (ci, fs))) (hc : vwCl[ci]? = some q) (hq : q.1 = C)
    (hn : As.length = n) (hsize : ls.size = nL) (hst : st = As.reverse ++ .ref b :: rest) (hcat : (rest.map fun v => v.category).sum ≤ 8) (hdg : decode cc pc = .ok (.invokevirtual index, 3)) (hf : cells + mc ≤ R.cells ∧ slots + ms ≤ R.slots)
    (kk : ∀ (H1 : Heap) (locs1 : List Loc), kW D tys A s.heap s H1 locs1 Bs' → W p l e R s m args below meth c H1 locs1 (cells + mc) (slots + ms) Q (F0 m (pc + 3) ls (.ref r :: rest))) : W p l e R s m args below meth c H locs cells slots Q (F0 m pc ls st) := by
  obtain ⟨hP1, hD1, hPc, hDc, hFc⟩ := k_split w (by rw [hlen0]; exact hp) he
  refine va_callr (va_runU (As := As) (rest := rest) S (hM H.size) cw ⟨kPreJ_blind, k_recv w i0 hB hx hc hq, fun U hU hW => k_preJ hU hW w.1 hPc hDc w.2.2.2.2.2 hj w.2.2.2.1 hFc⟩ rfl hn hsize hst (lv_room hcat) hdg hf) w.2.2.2.1 (fun q _ h => hFc q h) hFc (fun u r1 t H1 locs1 ht hvm hw hB1 hz1 hk1 hS1 => ?_)
  obtain ⟨rfl, hP2, hK2, hD2⟩ := hB1
  rw [ht] at hP2
  obtain ⟨hP3, hD3⟩ := k_join hP1 hD1 hk1 hFc hP2 hD2
  exact kk H1 locs1 (k_back w (by rw [hlen0]; exact hp) (hlen.trans hlen0.symm) he' hP3 hD3 hS1)
theorem j_rSU (S : CallFix p m c cc nL s args Ts own) {r : Nat} (hj : kJ J A s) (w : kW D tys A s.heap s H locs Bs) (hM : Jr J l y wsy rm D tys (.ref b :: As) Cs Cs' r mc ms) (cw : va_CS R s args own index y bytes maxL ret wsy rm mc ms n) (is : List Nat) {nB : Nat} (hp : is.Perm (List.range nB)) (hlen0 : Bs.length = nB) (hlen : Bs'.length = nB) (he : is.filterMap (fun i => Bs[i]?) = Cs ++ Rs) (he' : is.filterMap (fun i => Bs'[i]?) = Cs' ++ Rs)
    {B0 : va_W} {ci : Nat} {fs : List Value} {q : vw_C} (i0 : Nat) (hB : Bs[i0]? = some B0) (hx : B0[0]? = some (b, .inr (ci, fs))) (hc : vwCl[ci]? = some q) (hq : q.1 = C)
    (hn : As.length = n) (hsize : ls.size = nL) (hst : st = As.reverse ++ .ref b :: rest) (hcat : (rest.map fun v => v.category).sum ≤ 8) (hdg : decode cc pc = .ok (.invokespecial index, 3)) (hf : cells + mc ≤ R.cells ∧ slots + ms ≤ R.slots)
    (kk : ∀ (H1 : Heap) (locs1 : List Loc), kW D tys A s.heap s H1 locs1 Bs' → W p l e R s m args below meth c H1 locs1 (cells + mc) (slots + ms) Q (F0 m (pc + 3) ls (.ref r :: rest))) : W p l e R s m args below meth c H locs cells slots Q (F0 m pc ls st) := by
  obtain ⟨hP1, hD1, hPc, hDc, hFc⟩ := k_split w (by rw [hlen0]; exact hp) he
  refine va_callr (va_runSU (C := C) (As := As) (rest := rest) (by rw [← hq]; exact (w.1.1 ci q hc).2) S (hM H.size) cw ⟨kPreJ_blind, k_recv w i0 hB hx hc hq, fun U hU hW => k_preJ hU hW w.1 hPc hDc w.2.2.2.2.2 hj w.2.2.2.1 hFc⟩ rfl hn hsize hst (lv_room hcat) hdg hf) w.2.2.2.1 (fun q _ h => hFc q h) hFc (fun u r1 t H1 locs1 ht hvm hw hB1 hz1 hk1 hS1 => ?_)
  obtain ⟨rfl, hP2, hK2, hD2⟩ := hB1
  rw [ht] at hP2
  obtain ⟨hP3, hD3⟩ := k_join hP1 hD1 hk1 hFc hP2 hD2
  exact kk H1 locs1 (k_back w (by rw [hlen0]; exact hp) (hlen.trans hlen0.symm) he' hP3 hD3 hS1)
theorem j_rS (S : CallFix p m c cc nL s args Ts own) {r : Nat} (hj : kJ J A s) (w : kW D tys A s.heap s H locs Bs) (hM : Jr J l y wsy rm D tys As Cs Cs' r mc ms) (cw : CallB R s args own index y bytes maxL ret wsy rm mc ms n ∧ (Cond.static y).before args s = true) (is : List Nat) {nB : Nat} (hp : is.Perm (List.range nB)) (hlen0 : Bs.length = nB) (hlen : Bs'.length = nB) (he : is.filterMap (fun i => Bs[i]?) = Cs ++ Rs) (he' : is.filterMap (fun i => Bs'[i]?) = Cs' ++ Rs)
    (hn : As.length = n) (hsize : ls.size = nL) (hst : st = As.reverse ++ rest) (hcat : (rest.map fun v => v.category).sum ≤ 8) (hdg : decode cc pc = .ok (.invokestatic index, 3)) (hf : cells + mc ≤ R.cells ∧ slots + ms ≤ R.slots)
    (kk : ∀ (H1 : Heap) (locs1 : List Loc), kW D tys A s.heap s H1 locs1 Bs' → W p l e R s m args below meth c H1 locs1 (cells + mc) (slots + ms) Q (F0 m (pc + 3) ls (.ref r :: rest))) : W p l e R s m args below meth c H locs cells slots Q (F0 m pc ls st) := by
  obtain ⟨hP1, hD1, hPc, hDc, hFc⟩ := k_split w (by rw [hlen0]; exact hp) he
  refine va_callr (va_runS (As := As) (rest := rest) S (hM H.size) cw ⟨kPreJ_blind, fun U hU hW => k_preJ hU hW w.1 hPc hDc w.2.2.2.2.2 hj w.2.2.2.1 hFc⟩ rfl hn hsize hst (lv_room hcat) hdg hf) w.2.2.2.1 (fun q _ h => hFc q h) hFc (fun u r1 t H1 locs1 ht hvm hw hB1 hz1 hk1 hS1 => ?_)
  obtain ⟨rfl, hP2, hK2, hD2⟩ := hB1
  rw [ht] at hP2
  obtain ⟨hP3, hD3⟩ := k_join hP1 hD1 hk1 hFc hP2 hD2
  exact kk H1 locs1 (k_back w (by rw [hlen0]; exact hp) (hlen.trans hlen0.symm) he' hP3 hD3 hS1)
theorem j_vVN {host : String} (S : CallFix p m c cc nL s args Ts own) (hj : kJ J A s) (w : kW D tys A s.heap s H locs Bs) (hM : Jv J l y wsy rm D tys (.ref b :: As) Cs Cs' mc ms) (cw : va_CN R s args own index y host bytes maxL ret wsy rm mc ms n ∧ (Cond.instanceMethod y).before args s = true ∧ (Cond.selects C y y).before args s = true) (is : List Nat) {nB : Nat} (hp : is.Perm (List.range nB)) (hlen0 : Bs.length = nB) (hlen : Bs'.length = nB) (he : is.filterMap (fun i => Bs[i]?) = Cs ++ Rs) (he' : is.filterMap (fun i => Bs'[i]?) = Cs' ++ Rs)
    {B0 : va_W} {ci : Nat} {fs : List Value} {q : vw_C} (i0 : Nat) (hB : Bs[i0]? = some B0) (hx : B0[0]? = some (b, .inr (ci, fs))) (hc : vwCl[ci]? = some q) (hq : q.1 = C)
    (hn : As.length = n) (hsize : ls.size = nL) (hst : st = As.reverse ++ .ref b :: rest) (hcat : (rest.map fun v => v.category).sum ≤ 8) (hdg : decode cc pc = .ok (.invokevirtual index, 3)) (hf : cells + mc ≤ R.cells ∧ slots + ms ≤ R.slots)
    (kk : ∀ (H1 : Heap) (locs1 : List Loc), kW D tys A s.heap s H1 locs1 Bs' → W p l e R s m args below meth c H1 locs1 (cells + mc) (slots + ms) Q (F0 m (pc + 3) ls rest)) : W p l e R s m args below meth c H locs cells slots Q (F0 m pc ls st) := by
  obtain ⟨hP1, hD1, hPc, hDc, hFc⟩ := k_split w (by rw [hlen0]; exact hp) he
  refine va_callv (va_runVN (As := As) (rest := rest) S (hM H.size) cw ⟨kPreJ_blind, k_recv w i0 hB hx hc hq, fun U hU hW => k_preJ hU hW w.1 hPc hDc w.2.2.2.2.2 hj w.2.2.2.1 hFc⟩ rfl hn hsize hst (lv_room hcat) hdg hf) w.2.2.2.1 (fun q _ h => hFc q h) hFc (fun u t H1 locs1 ht hvm hw hB1 hz1 hk1 hS1 => ?_)
  obtain ⟨hP2, hK2, hD2⟩ := hB1
  rw [ht] at hP2
  obtain ⟨hP3, hD3⟩ := k_join hP1 hD1 hk1 hFc hP2 hD2
  exact kk H1 locs1 (k_back w (by rw [hlen0]; exact hp) (hlen.trans hlen0.symm) he' hP3 hD3 hS1)
theorem j_iVK (S : CallFix p m c cc nL s args Ts own) {r : Int32} (hj : kJ J A s) (w : kW D tys A s.heap s H locs Bs) (hM : Ji J l y wsy rm D tys (.ref b :: As) Cs Cs' r mc ms) (cw : CallW R s args own C index y bytes maxL ret wsy rm mc ms n) (is : List Nat) {nB : Nat} (hp : is.Perm (List.range nB)) (hlen0 : Bs.length = nB) (hlen : Bs'.length = nB) (he : is.filterMap (fun i => Bs[i]?) = Cs ++ Rs) (he' : is.filterMap (fun i => Bs'[i]?) = Cs' ++ Rs)
    (hrc : va_O C b A s s.heap)
    (hn : As.length = n) (hsize : ls.size = nL) (hst : st = As.reverse ++ .ref b :: rest) (hcat : (rest.map fun v => v.category).sum ≤ 8) (hdg : decode cc pc = .ok (.invokevirtual index, 3)) (hf : cells + mc ≤ R.cells ∧ slots + ms ≤ R.slots)
    (kk : ∀ (H1 : Heap) (locs1 : List Loc), kW D tys A s.heap s H1 locs1 Bs' → W p l e R s m args below meth c H1 locs1 (cells + mc) (slots + ms) Q (F0 m (pc + 3) ls (.int r :: rest))) : W p l e R s m args below meth c H locs cells slots Q (F0 m pc ls st) := by
  obtain ⟨hP1, hD1, hPc, hDc, hFc⟩ := k_split w (by rw [hlen0]; exact hp) he
  refine va_calli (va_runV (As := As) (rest := rest) S (hM H.size) cw ⟨kPreJ_blind, j_recv hrc w, fun U hU hW => k_preJ hU hW w.1 hPc hDc w.2.2.2.2.2 hj w.2.2.2.1 hFc⟩ rfl hn hsize hst (lv_room hcat) hdg hf) w.2.2.2.1 (fun q _ h => hFc q h) hFc (fun r1 u t H1 locs1 ht hvm hw hB1 hz1 hk1 hS1 => ?_)
  obtain ⟨hP2, hK2, hD2⟩ := hB1
  rw [ht] at hP2
  rw [show r1 = r from hw]
  obtain ⟨hP3, hD3⟩ := k_join hP1 hD1 hk1 hFc hP2 hD2
  exact kk H1 locs1 (k_back w (by rw [hlen0]; exact hp) (hlen.trans hlen0.symm) he' hP3 hD3 hS1)
theorem j_vVK (S : CallFix p m c cc nL s args Ts own) (hj : kJ J A s) (w : kW D tys A s.heap s H locs Bs) (hM : Jv J l y wsy rm D tys (.ref b :: As) Cs Cs' mc ms) (cw : CallW R s args own C index y bytes maxL ret wsy rm mc ms n) (is : List Nat) {nB : Nat} (hp : is.Perm (List.range nB)) (hlen0 : Bs.length = nB) (hlen : Bs'.length = nB) (he : is.filterMap (fun i => Bs[i]?) = Cs ++ Rs) (he' : is.filterMap (fun i => Bs'[i]?) = Cs' ++ Rs)
    (hrc : va_O C b A s s.heap)
    (hn : As.length = n) (hsize : ls.size = nL) (hst : st = As.reverse ++ .ref b :: rest) (hcat : (rest.map fun v => v.category).sum ≤ 8) (hdg : decode cc pc = .ok (.invokevirtual index, 3)) (hf : cells + mc ≤ R.cells ∧ slots + ms ≤ R.slots)
    (kk : ∀ (H1 : Heap) (locs1 : List Loc), kW D tys A s.heap s H1 locs1 Bs' → W p l e R s m args below meth c H1 locs1 (cells + mc) (slots + ms) Q (F0 m (pc + 3) ls rest)) : W p l e R s m args below meth c H locs cells slots Q (F0 m pc ls st) := by
  obtain ⟨hP1, hD1, hPc, hDc, hFc⟩ := k_split w (by rw [hlen0]; exact hp) he
  refine va_callv (va_runV (As := As) (rest := rest) S (hM H.size) cw ⟨kPreJ_blind, j_recv hrc w, fun U hU hW => k_preJ hU hW w.1 hPc hDc w.2.2.2.2.2 hj w.2.2.2.1 hFc⟩ rfl hn hsize hst (lv_room hcat) hdg hf) w.2.2.2.1 (fun q _ h => hFc q h) hFc (fun u t H1 locs1 ht hvm hw hB1 hz1 hk1 hS1 => ?_)
  obtain ⟨hP2, hK2, hD2⟩ := hB1
  rw [ht] at hP2
  obtain ⟨hP3, hD3⟩ := k_join hP1 hD1 hk1 hFc hP2 hD2
  exact kk H1 locs1 (k_back w (by rw [hlen0]; exact hp) (hlen.trans hlen0.symm) he' hP3 hD3 hS1)
end KBJ
